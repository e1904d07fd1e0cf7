/** The sentences of section 1, pages and frames: the title of each run is the sentence that it looks at. */
public final class PagesTest {
    private static final Runs RUNS = new Runs();

    private PagesTest() {
    }

    private static void run(String title, String rows) {
        RUNS.run(title, rows);
    }

    private static void pages() {
        StringBuilder first = new StringBuilder();
        for (int p = 0; p < 6; p++) {
            first.append("allOfPage ").append(p).append(" = 0 0 0 0 0 0 0 0 0 0\n");
            for (int r = 0; r < 4; r++) {
                first.append("values ").append(p).append(' ').append(r).append(" = 0 0 0 0\n");
            }
        }
        run("There are six PAGES, 0 to 5, .. four ROWS, 0 to 3, .. (all 0 at first)", first.toString());
        run("There are six PAGES, 0 to 5, .. four ROWS, 0 to 3, each with a VALUE (0 to 999)", """
            begin = 0
            write 0 0 0 999 = 0
            write 0 0 0 0 = 999
            write 0 0 0 999 = 0
            write 0 5 3 999 = 0
            write 0 0 3 1 = 0
            write 0 5 0 2 = 0
            rows 0 0 = 999 0 0 1
            rows 5 0 = 2 0 0 999
            rows 1 0 = 0 0 0 0
            rows 4 0 = 0 0 0 0
            ! write 0 6 0 1 = INDEX
            ! write 0 -1 0 1 = INDEX
            ! write 0 0 4 1 = INDEX
            ! write 0 0 -1 1 = INDEX
            ! write 0 0 0 1000 = ARGUMENT
            ! write 0 0 0 -1 = ARGUMENT
            """);
        run("the PAGE has a NUMBER: that of the last record that was DONE to it", """
            begin = 0
            ofPage 0 2 = 0
            write 0 0 0 1 = 0      # record 2
            ofPage 0 2 = 2
            write 0 1 0 1 = 0
            ofPage 0 2 = 2
            ofPage 1 2 = 3
            ticket 0 0 = 1
            ofPage 0 2 = 4
            point 0 = 0
            write 0 0 3 7 = 0
            back 0 0 = 1
            ofPage 0 2 = 6         # a BACK
            mark = 7
            end 0 = 1
            ofPage 0 2 = 6         # MARK and END are of no PAGE
            ofPage 0 5 = 0         # the SAFE copy has its own
            """);
        run("A PAGE has a TICKET", """
            begin = 0
            ticket 0 0 = 1
            ticket 0 5 = 1         # each PAGE has its own
            ticket 0 0 = 2
            write 0 0 0 9 = 0
            ofPage 0 7 = 2
            ofPage 5 7 = 1
            ofPage 1 7 = 0
            rows 0 0 = 9 0 0 0
            crash = 5
            ofPage 0 7 = 0
            """);
        run("Of each PAGE there is a SAFE copy", """
            begin = 0
            write 0 0 1 5 = 0
            ticket 0 0 = 1
            rows 0 1 = 0 0 0 0
            flush 0 = 1
            rows 0 1 = 0 5 0 0
            write 0 0 1 6 = 5
            rows 0 1 = 0 5 0 0
            allOfPage 0 = 1 1 4 4 0 3 0 1 0 0
            """);
    }

    /** One spoil of a ROW with 999 takes 999 times its weight away; what is added behind makes the SUM right again. */
    private static void sums() {
        run("a SUM: .. for each ROW r, r + 1 times its VALUE (3 of ROW 2, 1 of ROW 0)", """
            begin = 0
            write 0 0 0 999 = 0
            flush 0 = 1
            spoil 0 0 = 1
            332 times spoil 0 2 = 1
            spoil 0 2 = 0
            ofPage 0 6 = 0
            spoil 0 2 = 1
            """);
        run("a SUM: .. for each ROW r, r + 1 times its VALUE (4 of ROW 3, 3 of ROW 2)", """
            begin = 0
            write 0 0 0 999 = 0
            flush 0 = 1
            spoil 0 0 = 1
            249 times spoil 0 3 = 1
            spoil 0 2 = 0
            ofPage 0 6 = 0
            spoil 0 0 = 1
            """);
        run("a SUM: .. for each ROW r, r + 1 times its VALUE (2 of ROW 1)", """
            begin = 0
            write 0 0 0 999 = 0
            flush 0 = 1
            spoil 0 0 = 1
            499 times spoil 0 1 = 1
            spoil 0 0 = 0
            ofPage 0 6 = 0
            """);
        run("It is TORN, if its SUM is not that", """
            spoil 1 0 = 1
            spoil 1 1 = 1
            ofPage 1 6 = 1
            ofPage 0 6 = 0
            pin 2 = 1
            spoil 2 3 = 1          # it is in a FRAME: its SAFE copy is TORN all the same
            ofPage 2 6 = 1
            begin = 0
            write 0 2 3 1 = 0      # as it is now does not matter
            ofPage 2 6 = 1
            flush 2 = 1
            ofPage 2 6 = 0
            """);
    }

    private static void frames() {
        run("Three FRAMES (empty at first)", """
            frames = -
            begin = 0
            read 0 4 0 = 0
            frames = 4
            read 0 2 0 = 0
            frames = 4 2
            read 0 0 0 = 0
            frames = 4 2 0
            read 0 1 0 = 0
            frames = 2 0 1
            ofPage 4 0 = 0
            ofPage 1 0 = 1
            """);
        run("hold PAGES as they are now", """
            begin = 0
            write 0 3 1 5 = 0
            ticket 0 3 = 1
            ofPage 3 2 = 3
            ofPage 3 7 = 1
            value 3 1 0 = 5
            value 3 1 1 = 0
            spoil 3 1 = 1
            value 3 1 0 = 5        # the FRAME is not spoiled
            value 3 1 1 = 1
            read 0 3 1 = 5
            """);
        run("DIRTY, if a record was DONE to it since it came", """
            begin = 0
            read 0 0 0 = 0
            ofPage 0 1 = 0
            ofPage 0 3 = 0
            pin 0 = 1
            ofPage 0 1 = 0
            write 0 0 0 1 = 0      # record 2
            ofPage 0 1 = 1
            frames = 0*+
            unpin 0 = 0
            read 0 1 0 = 0
            read 0 2 0 = 0
            read 0 3 0 = 0
            ofPage 0 1 = 0         # it left
            ofPage 0 3 = 0
            read 0 0 0 = 1
            ofPage 0 1 = 0
            ticket 0 0 = 1         # record 3
            ofPage 0 1 = 1
            ofPage 0 3 = 3
            ticket 0 1 = 1         # record 4
            ofPage 1 3 = 4
            """);
        run("or was WRITTEN", """
            begin = 0
            point 0 = 0
            write 0 0 0 1 = 0
            flush 0 = 1
            ofPage 0 1 = 0
            ofPage 0 3 = 0
            back 0 0 = 1           # record 3, a BACK
            ofPage 0 1 = 1
            ofPage 0 3 = 3
            """);
        run("FROM tells the first such one", """
            begin = 0
            write 0 0 0 1 = 0
            write 0 0 1 1 = 0
            ticket 0 0 = 1
            ofPage 0 3 = 2
            flush 0 = 1
            ofPage 0 3 = 0
            ticket 0 0 = 2         # record 5
            write 0 0 0 1 = 1
            ofPage 0 3 = 5
            """);
        run("PINS (0 as it comes)", """
            pin 0 = 1
            pin 0 = 2
            crash = 0
            ofPage 0 4 = 0
            mend 0 false = 0
            ofPage 0 4 = 0
            pin 0 = 1
            unpin 0 = 0
            pin 1 = 1
            pin 2 = 1
            pin 3 = 1
            ofPage 0 0 = 0
            unpin 3 = 0
            pin 0 = 1
            frames = 1+ 2+ 0+
            """);
        run("A PAGE that is in no FRAME is now as its SAFE copy is", """
            begin = 0
            write 0 0 1 7 = 0
            ticket 0 0 = 1
            flush 0 = 1            # SAFE: 7, NUMBER 3, TICKET 1
            write 0 0 1 8 = 7
            ticket 0 0 = 2
            force 99 = 5
            crash = 0
            allOfPage 0 = 0 0 3 0 0 3 0 1 0 0
            rows 0 0 = 0 7 0 0
            spoil 0 1 = 1
            spoil 0 3 = 1
            rows 0 0 = 0 8 0 1     # as it is spoiled, too
            """);
    }

    private static void getting() {
        run("To GET a PAGE: if it is in a FRAME, that is USED", """
            begin = 0
            read 0 0 0 = 0
            read 0 1 0 = 0
            read 0 2 0 = 0
            frames = 0 1 2
            read 0 0 1 = 0
            frames = 1 2 0
            write 0 1 0 1 = 0
            frames = 2 0 1*
            ticket 0 2 = 1
            frames = 0 1* 2*
            pin 0 = 1
            frames = 1* 2* 0+
            point 0 = 0
            write 0 1 0 2 = 1
            read 0 2 0 = 0
            frames = 0+ 1* 2*
            back 0 0 = 1           # as a BACK is put, its PAGE is GOT
            frames = 0+ 2* 1*
            write 0 2 0 9 = 0
            read 0 0 0 = 0
            read 0 1 0 = 1
            frames = 2* 0+ 1*
            roll 0 = 2             # BACK of PAGE 2, then of PAGE 1
            frames = 0+ 2* 1*
            """);
        run("what does not GET a PAGE does not USE its FRAME", """
            begin = 0
            begin = 1
            write 0 0 0 1 = 0
            read 0 1 0 = 0
            read 0 2 0 = 0
            pin 0 = 1
            read 0 1 0 = 0
            read 0 2 0 = 0
            frames = 0*+ 1 2
            unpin 0 = 0
            flush 0 = 1
            lock 0 0 true = 4
            spoil 0 3 = 1
            restore 0 = -8
            read 1 0 0 = -6        # it is not let
            write 1 0 0 7 = -6
            write 0 0 0 1000 = ARGUMENT
            value 0 0 0 = 1
            owes 0 0 = 3
            copy = 1
            mark = 4
            follow 9 = 3
            cut = 0
            frames = 0 1 2
            """);
        run("Otherwise, if its SAFE copy is TORN, -5", """
            begin = 0
            spoil 3 0 = 1
            ? read 0 3 0 = -5      # though all FRAMES are empty
            ? write 0 3 0 1 = -5
            ? ticket 0 3 = -5
            ? pin 3 = -5
            house 13 = 4
            house 12 = 0
            read 0 0 0 = 0
            read 0 1 0 = 0
            read 0 2 0 = 0
            ? read 0 3 0 = -5      # though a PAGE could leave
            frames = 0 1 2
            house 13 = 5
            restore 3 = 0
            read 0 3 0 = 0
            frames = 1 2 3
            """);
        run("if it is in a FRAME, that is USED (TORN or not)", """
            begin = 0
            read 0 3 0 = 0
            spoil 3 0 = 1
            read 0 3 0 = 0
            write 0 3 0 4 = 0
            ticket 0 3 = 1
            pin 3 = 1
            house 13 = 0
            ofPage 3 6 = 1
            """);
        run("Otherwise it comes into an empty FRAME, as its SAFE copy is", """
            begin = 0
            write 0 0 2 5 = 0
            ticket 0 0 = 1
            flush 0 = 1
            crash = 0
            mend 9 false = 1       # the BACK: PAGE 0 was written with its CHANGE and TICKET
            ofPage 0 0 = 1
            begin = 1
            read 1 4 0 = 0         # a FRAME is empty: PAGE 0 stays
            read 1 2 0 = 0
            frames = 0* 4 2
            flush 0 = 1
            read 1 3 0 = 0
            frames = 4 2 3
            read 1 0 2 = 0
            allOfPage 0 = 1 0 4 0 0 4 0 1 0 0
            frames = 2 3 0
            """);
        run("if no FRAME is empty, of the PAGES without PINS that whose FRAME was not USED for longest leaves", """
            begin = 0
            pin 0 = 1
            pin 1 = 1
            pin 2 = 1
            unpin 1 = 0
            read 0 3 0 = 0
            frames = 0+ 2+ 3       # only PAGE 1 had no PINS
            unpin 2 = 0
            unpin 0 = 0
            frames = 0 2 3
            read 0 0 0 = 0
            read 0 4 0 = 0
            frames = 3 0 4         # PAGE 2 left
            pin 3 = 1
            read 0 5 0 = 0
            frames = 4 3+ 5        # PAGE 0 left
            read 0 4 0 = 0
            frames = 3+ 5 4
            read 0 1 0 = 0
            frames = 3+ 4 1        # PAGE 3 has PINS: PAGE 5 left
            """);
        run("it is WRITTEN, if it is DIRTY", """
            begin = 0
            write 0 0 0 5 = 0      # record 2
            begin = 1
            read 0 1 0 = 0
            read 0 2 0 = 0
            house 1 = 0
            allOfPage 0 = 1 1 2 2 0 0 0 0 0 0
            read 0 3 0 = 0
            allOfPage 0 = 0 0 2 0 0 2 0 0 0 0
            rows 0 1 = 5 0 0 0
            house 1 = 2            # SAFE up to its NUMBER, and no more
            """);
        run("or its SAFE copy is TORN", """
            begin = 0
            read 0 0 0 = 0
            spoil 0 0 = 1
            read 0 1 0 = 0
            read 0 2 0 = 0
            rows 0 1 = 1 0 0 0
            read 0 3 0 = 0
            frames = 1 2 3
            allOfPage 0 = 0 0 0 0 0 0 0 0 0 0
            rows 0 1 = 0 0 0 0
            house 1 = 0            # its NUMBER is SAFE
            """);
        // The SUM is right though the VALUES are not: only a PAGE that is WRITTEN would bring the VALUES back.
        run("a PAGE that leaves and is neither is not WRITTEN", """
            begin = 0
            write 0 0 0 999 = 0
            flush 0 = 1
            spoil 0 0 = 1
            332 times spoil 0 2 = 1
            spoil 0 2 = 0
            rows 0 0 = 999 0 0 0
            rows 0 1 = 0 0 333 0
            read 0 1 0 = 0
            read 0 2 0 = 0
            read 0 3 0 = 0
            frames = 1 2 3
            rows 0 1 = 0 0 333 0
            read 0 0 2 = 333       # it comes as its SAFE copy is
            """);
        run("if all have PINS, -7", """
            begin = 0
            pin 0 = 1
            pin 1 = 1
            pin 2 = 1
            ? read 0 3 0 = -7
            ? write 0 3 0 1 = -7
            ? ticket 0 3 = -7
            ? pin 3 = -7
            house 13 = 4
            frames = 0+ 1+ 2+
            read 0 1 0 = 0         # it is in a FRAME
            write 0 2 0 1 = 0
            ticket 0 0 = 1
            pin 1 = 2
            house 13 = 4
            unpin 1 = 1
            ? pin 3 = -7
            unpin 1 = 0
            pin 3 = 1
            frames = 2*+ 0*+ 3+
            """);
        run("-5, if a PAGE that would have to come into a FRAME is TORN; -7, if .. there is no FRAME for it", """
            begin = 0
            pin 0 = 1
            pin 1 = 1
            pin 2 = 1
            spoil 3 0 = 1
            ? pin 3 = -5
            ? read 0 3 0 = -5
            ? write 0 3 0 1 = -5
            ? ticket 0 3 = -5
            ? pin 4 = -7
            house 13 = 5
            """);
    }

    private static void writing() {
        run("To WRITE a PAGE: the LOG becomes SAFE up to its NUMBER", """
            begin = 0
            write 0 0 0 1 = 0
            write 0 1 0 1 = 0
            write 0 0 1 2 = 0      # record 4
            begin = 1
            flush 0 = 1
            house 1 = 4
            house 0 = 5
            """);
        run("To WRITE a PAGE: the LOG becomes SAFE up to its NUMBER, if it is not", """
            begin = 0
            write 0 0 0 1 = 0
            write 0 1 0 1 = 0
            begin = 1
            force 3 = 3
            flush 0 = 1
            house 1 = 3            # it was already, and more
            flush 0 = 0
            flush 1 = 1
            house 1 = 3
            pin 5 = 1
            flush 5 = 0
            house 1 = 3            # its NUMBER is 0
            """);
        run("To WRITE a PAGE makes an END SAFE that is not above its NUMBER", """
            group 3 = 1
            begin = 0
            begin = 1
            begin = 2
            end 0 = 0
            write 2 0 0 1 = 0      # record 5
            end 1 = 0
            flush 0 = 1
            house 1 = 5
            ofWork 0 0 = 2
            ofWork 1 0 = 1
            house 6 = 1
            """);
        run("then its SAFE copy is as it, with its SUM, and it is not DIRTY", """
            begin = 0
            write 0 0 0 1 = 0
            write 0 0 1 2 = 0
            write 0 0 2 3 = 0
            write 0 0 3 4 = 0
            ticket 0 0 = 1
            flush 0 = 1
            rows 0 1 = 1 2 3 4
            allOfPage 0 = 1 0 6 0 0 6 0 1 0 0
            crash = 0
            rows 0 0 = 1 2 3 4
            ofPage 0 7 = 1
            ofPage 0 2 = 6
            """);
    }

    public static void main(String[] args) {
        pages();
        sums();
        frames();
        getting();
        writing();
        RUNS.finish("pages and frames");
    }
}
