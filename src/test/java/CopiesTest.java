/** The sentences of section 5, copies, cuts, and the mirror: the title of each run is the sentence that it looks at. */
public final class CopiesTest {
    private static final Runs RUNS = new Runs();

    private CopiesTest() {
    }

    private static void run(String title, String rows) {
        RUNS.run(title, rows);
    }

    private static void copies() {
        run("There is a COPY of each PAGE (as all was at first)", """
            copy = 0
            ofPage 0 8 = 0
            ofPage 5 8 = 0
            begin = 0
            write 0 5 3 7 = 0
            ticket 0 5 = 1
            flush 5 = 1
            ofPage 5 8 = 0
            values 5 3 = 7 7 0 0
            copy = 0
            values 5 3 = 7 7 7 0
            ofPage 5 8 = 3
            write 0 5 3 8 = 7
            flush 5 = 1
            values 5 3 = 8 8 7 0   # it is a COPY, and stays
            ofPage 5 8 = 3
            """);
        run("Each COPY becomes as the SAFE copy of its PAGE is (its TICKET, too)", """
            begin = 0
            ticket 0 0 = 1
            ticket 0 0 = 2
            flush 0 = 1
            copy = 0
            follow 9 = 3
            end 0 = 1
            follow 9 = 4
            cut = 4                # nothing is KEPT: all comes from the COPY
            crash = 0
            spoil 0 0 = 1
            ofPage 0 7 = 2
            restore 0 = 0
            allOfPage 0 = 0 0 3 0 0 3 0 2 3 3
            """);
        run("a COPY of a TORN page (it stays)", """
            begin = 0
            write 0 0 0 5 = 0
            write 0 1 0 6 = 0
            flush 0 = 1
            flush 1 = 1
            copy = 0
            write 0 0 0 7 = 5
            write 0 1 0 8 = 6
            flush 0 = 1
            flush 1 = 1
            spoil 0 1 = 1
            copy = 1               # of PAGE 1 alone
            ofPage 0 8 = 2
            ofPage 1 8 = 5
            rows 0 2 = 5 0 0 0
            rows 1 2 = 8 0 0 0
            flush 0 = 0
            copy = 0
            ofPage 0 8 = 4
            rows 0 2 = 7 0 0 0
            """);
        run("Returns how many are TORN (all, and none)", """
            spoil 0 0 = 1
            spoil 1 1 = 1
            spoil 2 2 = 1
            spoil 3 3 = 1
            spoil 4 0 = 1
            spoil 5 1 = 1
            copy = 6
            rows 5 2 = 0 0 0 0
            restore 5 = 0
            copy = 5
            crash = 0
            copy = 5               # also of a house that is DOWN
            mend 0 false = 0
            copy = 0
            """);
        run("To restore a PAGE: its SAFE copy becomes its COPY, to which all KEPT SAFE records .. above its NUMBER are DONE", """
            begin = 0
            write 0 0 0 5 = 0      # record 2
            flush 0 = 1
            copy = 0
            write 0 0 1 6 = 0      # record 3
            write 0 1 0 9 = 0      # record 4, of another PAGE
            ticket 0 0 = 1         # record 5
            write 0 0 0 7 = 5      # record 6
            write 0 0 0 8 = 7      # record 7, not SAFE
            force 4 = 6
            crash = 1
            spoil 0 3 = 1
            ofPage 0 5 = 2
            restore 0 = 3
            allOfPage 0 = 0 0 6 0 0 6 0 1 2 0
            rows 0 1 = 7 6 0 0
            rows 0 2 = 5 0 0 0
            restore 0 = 3          # the COPY is as before
            copy = 0
            restore 0 = 0
            restore 1 = 1
            restore 5 = 0
            """);
        run("To restore a PAGE (that is not TORN, and a house that is up)", """
            begin = 0
            write 0 0 0 5 = 0      # record 2
            write 0 1 0 1 = 0
            write 0 2 0 1 = 0
            force 9 = 4
            write 0 3 0 1 = 0      # PAGE 0 leaves
            write 0 0 0 6 = 5      # record 6, PAGE 1 leaves
            ? restore 0 = -8
            restore 1 = 1
            value 1 0 1 = 1
            ofPage 1 5 = 3
            write 0 4 0 1 = 0      # PAGE 2 leaves
            write 0 5 0 1 = 0      # PAGE 3 leaves, record 5 is SAFE
            house 1 = 5
            restore 3 = 1
            restore 2 = 1
            house 13 = 1
            """);
        run("the SUM is right then", """
            begin = 0
            write 0 0 0 5 = 0
            write 0 0 1 6 = 0
            write 0 0 2 7 = 0
            write 0 0 3 8 = 0
            ticket 0 0 = 1
            force 9 = 6
            crash = 0
            spoil 0 0 = 1
            ofPage 0 6 = 1
            restore 0 = 5
            ofPage 0 6 = 0
            spoil 0 0 = 1
            spoil 0 1 = 1
            restore 0 = 5
            ofPage 0 6 = 0
            rows 0 0 = 5 6 7 8
            """);
        // The SUM is right though the VALUES are not, so that the COPY is spoiled, too.
        run("its SAFE copy becomes its COPY", """
            begin = 0
            write 0 0 0 999 = 0
            flush 0 = 1
            spoil 0 0 = 1
            332 times spoil 0 2 = 1
            spoil 0 2 = 0
            copy = 0
            rows 0 2 = 0 0 333 0
            crash = 0
            spoil 0 1 = 1
            restore 0 = 0
            rows 0 1 = 0 0 333 0
            """);
    }

    private static void mirror() {
        run("The MIRROR has all PAGES (as at first)", """
            begin = 0
            write 0 0 0 5 = 0
            flush 0 = 1
            copy = 0
            rows 0 3 = 0 0 0 0
            ofPage 0 9 = 0
            house 9 = 0
            """);
        run("and FOLLOWS the SAFE LOG, record by record (0 at first): each is DONE to the MIRROR's PAGE, if it has one", """
            begin = 0              # record 1
            write 0 0 0 5 = 0      # record 2
            ticket 0 1 = 1         # record 3
            write 0 0 0 6 = 5      # record 4
            mark = 5
            roll 0 = 2             # records 6 to 8
            begin = 1              # record 9
            force 99 = 9
            follow 1 = 1
            ofPage 0 9 = 0
            follow 1 = 2
            rows 0 3 = 5 0 0 0
            ofPage 0 9 = 2
            follow 2 = 4
            rows 0 3 = 6 0 0 0
            ofPage 0 9 = 4
            ofPage 1 9 = 3
            follow 1 = 5
            ofPage 0 9 = 4
            follow 1 = 6
            rows 0 3 = 5 0 0 0     # a BACK
            follow 99 = 9
            rows 0 3 = 0 0 0 0
            ofPage 0 9 = 7
            rows 1 3 = 0 0 0 0
            house 9 = 9
            """);
        run("a MIRROR that has nothing to FOLLOW", """
            follow 1 = 0
            follow 99 = 0
            begin = 0
            write 0 0 0 5 = 0
            follow 99 = 0          # nothing is SAFE
            force 1 = 1
            follow 99 = 1
            follow 99 = 1
            follow 1 = 1
            rows 0 3 = 0 0 0 0
            flush 0 = 1
            follow 1 = 2
            rows 0 3 = 5 0 0 0
            follow 1 = 2
            crash = 0
            follow 1 = 2           # also of a house that is DOWN
            house 9 = 2
            """);
        run("follow: how many records at most (99, and one more than there are)", many());
        run("takeOver: the house crashes, the MIRROR FOLLOWS all of the SAFE LOG (of which it FOLLOWED nothing)", """
            begin = 0
            write 0 0 0 5 = 0
            ticket 0 1 = 1
            write 0 2 0 6 = 0
            end 0 = 1
            begin = 1
            write 1 0 0 7 = 5
            pin 0 = 1
            takeOver = 3
            allOfHouse = 5 5 1 0 2 0 0 1 1 5 0 1 0 0 0
            frames = -
            ofWork 1 0 = 3         # its BEGIN was not SAFE
            allOfPage 0 = 0 0 2 0 0 2 0 0 0 2
            allOfPage 1 = 0 0 3 0 0 3 0 1 0 3
            rows 0 1 = 5 0 0 0
            rows 2 1 = 6 0 0 0
            rows 2 3 = 6 0 0 0
            mend 0 false = 0
            house 8 = 0
            """);
        run("takeOver: .. (of which it FOLLOWED all: nothing is left to FOLLOW)", """
            begin = 0
            write 0 0 0 5 = 0
            end 0 = 1
            follow 9 = 3
            takeOver = 1           # PAGE 0 was not WRITTEN
            value 0 0 1 = 5
            house 9 = 3
            takeOver = 0
            house 11 = 2
            mend 0 false = 0
            """);
        run("takeOver: .. (of which it FOLLOWED some)", """
            begin = 0
            write 0 0 0 5 = 0
            write 0 0 1 6 = 0
            flush 0 = 1
            follow 2 = 2
            ofPage 0 9 = 2
            takeOver = 0           # then the MIRROR's NUMBER is 3, too
            house 9 = 3
            rows 0 1 = 5 6 0 0
            mend 2 false = 2       # the WORK is LOST: two BACKS
            rows 0 0 = 0 0 0 0
            """);
        run("takeOver: .. (behind the 99th record)", longMirror());
        run("and each SAFE copy becomes as its PAGE is there, with its SUM", """
            begin = 0
            write 0 0 0 5 = 0
            ticket 0 0 = 1
            end 0 = 1
            flush 0 = 1
            spoil 0 3 = 1
            spoil 4 0 = 1
            crash = 0
            takeOver = 2           # both are TORN, and have the same NUMBERS
            ofPage 0 6 = 0
            ofPage 4 6 = 0
            rows 0 1 = 5 0 0 0
            rows 4 1 = 0 0 0 0
            allOfPage 0 = 0 0 3 0 0 3 0 1 0 3
            spoil 0 0 = 1
            """);
        run("how many SAFE copies had another NUMBER, or were TORN (one that is both counts once)", """
            begin = 0
            write 0 0 0 5 = 0
            write 0 1 0 6 = 0
            end 0 = 1
            flush 1 = 1
            spoil 0 0 = 1
            takeOver = 1
            """);
    }

    private static String many() {
        StringBuilder rows = new StringBuilder("begin = 0\n");
        for (int i = 0; i < 110; i++) {
            rows.append("write 0 0 0 ").append(i + 1).append(" = ").append(i).append('\n');
        }
        return rows.append("force 99 = 99\nfollow 99 = 99\nvalue 0 0 3 = 98\nforce 99 = 111\nfollow 99 = 111\n"
            + "value 0 0 3 = 110\nforce 99 = 111\n").toString();
    }

    private static String longMirror() {
        StringBuilder rows = new StringBuilder("begin = 0\n");
        for (int i = 0; i < 210; i++) {
            rows.append("write 0 0 0 ").append(i + 1).append(" = ").append(i).append('\n');
        }
        return rows.append("end 0 = 1\ntakeOver = 1\nhouse 9 = 212\nvalue 0 0 1 = 210\nofPage 0 5 = 211\n").toString();
    }

    private static void cuts() {
        run("a cut that drops nothing", """
            cut = 0
            house 2 = 1
            begin = 0
            cut = 0
            write 0 0 0 5 = 0
            force 9 = 2
            cut = 0
            house 2 = 1
            ofRecord 1 0 = 0
            """);
        run("a cut that drops all", """
            begin = 0
            write 0 0 0 5 = 0
            mark = 3
            end 0 = 1
            flush 0 = 1
            copy = 0
            follow 9 = 4
            house 3 = 1
            cut = 4
            house 2 = 5            # one more than the last one
            house 0 = 4
            house 1 = 4
            house 3 = 0
            ! ofRecord 4 0 = INDEX
            ! ofRecord 5 0 = INDEX
            allOfWork 0 = 2 0 0 0 0 0 -1
            owes 0 0 = -1
            wouldMends = 0 0 0 0 0
            ! afterMend 1 0 0 = INDEX
            isSound = true
            cut = 0
            begin = 1
            house 2 = 5
            house 0 = 5
            allOfRecord 5 = 0 1 -1 -1 -1 -1 0 -1 -1 -1
            write 1 0 1 6 = 0
            force 9 = 6
            crash = 0
            mend 2 false = 2
            rows 0 0 = 5 0 0 0
            """);
        run("the smallest of these: SAFE + 1", """
            begin = 0
            end 0 = 1
            mark = 3
            mark = 4
            follow 9 = 2
            cut = 2                # nothing else is in the way
            house 2 = 3
            house 3 = 2            # KEPT, though not SAFE
            force 1 = 3
            cut = 0                # the MIRROR
            follow 9 = 3
            cut = 1
            house 2 = 4
            """);
        run("FROM of each DIRTY PAGE", """
            begin = 0
            write 0 0 0 5 = 0      # record 2
            write 0 1 0 6 = 0      # record 3
            end 0 = 1
            flush 0 = 1
            follow 9 = 4
            copy = 0
            cut = 2                # PAGE 1 is DIRTY from 3
            house 2 = 3
            flush 1 = 1
            copy = 0
            cut = 2
            house 2 = 5
            """);
        run("the BEGIN of each WORK that is OPEN", """
            begin = 0
            begin = 1
            begin = 2
            end 0 = 1
            follow 9 = 4
            cut = 1                # WORKS 1 and 2
            house 2 = 2
            end 2 = 1
            follow 9 = 5
            cut = 0
            end 1 = 1
            follow 9 = 6
            cut = 5
            """);
        run("or whose END .. is not SAFE", """
            group 4 = 1
            begin = 0
            mark = 2
            end 0 = 0              # record 3
            force 2 = 2
            follow 9 = 2
            cut = 0
            house 2 = 1
            force 1 = 3
            cut = 2                # its END is SAFE; the MIRROR has not FOLLOWED that
            house 2 = 3
            follow 9 = 3
            cut = 1
            """);
        run("or whose .. GONE is not SAFE", """
            begin = 0
            mark = 2
            roll 0 = 0             # record 3
            force 2 = 2
            follow 9 = 2
            cut = 0
            force 1 = 3
            cut = 2
            house 2 = 3
            """);
        run("or whose END or GONE is not SAFE (one behind SAFE + 1 changes nothing; one that is lost does not count)", """
            begin = 0
            begin = 1
            end 0 = 1
            force 9 = 3
            follow 9 = 3
            roll 1 = 0
            crash = 1
            mend 0 false = 0       # GONE again, and SAFE
            house 0 = 4
            begin = 2
            crash = 1              # WORK 2 has no BEGIN any more
            mend 0 false = 0
            follow 9 = 4
            cut = 4
            """);
        run("of each PAGE the first KEPT record of it above the NUMBER of its COPY", """
            begin = 0
            write 0 0 0 5 = 0      # record 2
            write 0 1 0 6 = 0      # record 3
            write 0 0 0 7 = 5      # record 4
            ticket 0 2 = 1         # record 5
            end 0 = 1
            follow 9 = 6
            flush 0 = 1
            copy = 0               # of PAGE 0 up to 4
            flush 1 = 1
            flush 2 = 1
            cut = 2
            house 2 = 3            # PAGE 1
            spoil 2 0 = 1
            copy = 1               # not of PAGE 2
            cut = 2
            house 2 = 5            # a TICKET
            flush 2 = 0
            copy = 0
            cut = 2
            house 2 = 7
            """);
        run("the first record that the MIRROR has not FOLLOWED", """
            begin = 0
            write 0 0 0 5 = 0
            end 0 = 1
            flush 0 = 1
            copy = 0
            cut = 0
            follow 1 = 1
            cut = 1
            house 2 = 2
            follow 1 = 2
            cut = 1
            house 2 = 3
            follow 1 = 3
            cut = 1
            house 2 = 4
            """);
        run("if the LOG was never cut (a cut() that dropped nothing is none)", """
            begin = 0
            write 0 0 0 999 = 0
            end 0 = 1
            flush 0 = 1
            isSound = true
            spoil 0 0 = 1
            332 times spoil 0 2 = 1
            spoil 0 2 = 0          # VALUES that no WORK wrote
            isSound = false
            cut = 0
            isSound = false
            follow 1 = 1
            cut = 1
            isSound = true
            """);
        run("The NIGHT WATCH lets no one in: who rings is REFUSED (counted)", """
            house 14 = 0
            knock = 1
            knock = 2
            crash = 0
            knock = 3
            takeOver = 0
            mend 0 false = 0
            house 14 = 3
            300 times frames = -
            knock = 4
            """);
    }

    public static void main(String[] args) {
        copies();
        mirror();
        cuts();
        RUNS.finish("copies, cuts, and the mirror");
    }
}
