import java.util.ArrayList;
import java.util.List;

/** The head of "Terms" as to who is refused, and the sentences of section 2, the log. */
public final class LogTest {
    private static final Runs RUNS = new Runs();

    private LogTest() {
    }

    private static void run(String title, String rows) {
        RUNS.run(title, rows);
    }

    private static void records() {
        run("RECORDS are numbered from 1 as they are put", """
            house 0 = 0
            ! ofRecord 0 0 = INDEX
            ! ofRecord 1 0 = INDEX
            begin = 0
            house 0 = 1
            ! ofRecord 0 0 = INDEX
            allOfRecord 1 = 0 0 -1 -1 -1 -1 0 -1 -1 -1
            ! ofRecord 2 0 = INDEX
            mark = 2
            write 0 0 0 1 = 0
            house 0 = 3
            """);
        run("behind a crash the next one is one more than SAFE", """
            begin = 0
            write 0 0 0 1 = 0
            write 0 0 0 2 = 1
            mark = 4
            force 2 = 2
            crash = 2
            house 0 = 2
            ! ofRecord 3 0 = INDEX
            mend 9 false = 2       # record 2 again, and a BACK
            house 0 = 4
            allOfRecord 3 = 2 0 0 0 1 0 2 1 -1 -1
            allOfRecord 4 = 4 0 -1 -1 -1 -1 3 -1 -1 -1
            mark = 5
            """);
        run("behind a crash the next one is one more than SAFE (with nothing SAFE)", """
            begin = 0
            write 0 0 0 1 = 0
            mark = 3
            crash = 3
            house 0 = 0
            mend 0 false = 0
            house 0 = 0
            mark = 1
            begin = 1
            write 1 0 0 1 = 0
            allOfRecord 1 = 5 -1 -1 -1 -1 -1 0 -1 0 0
            allOfRecord 2 = 0 1 -1 -1 -1 -1 0 -1 -1 -1
            allOfRecord 3 = 1 1 0 0 0 1 2 -1 -1 -1
            """);
        run("behind a crash the next one is one more than SAFE (with all SAFE)", """
            begin = 0
            end 0 = 1
            crash = 0
            house 0 = 2
            mend 0 false = 0
            begin = 1
            allOfRecord 3 = 0 1 -1 -1 -1 -1 0 -1 -1 -1
            """);
        run("behind a crash the next one .. (it has nothing of the one that was lost)", """
            begin = 0
            point 0 = 0
            write 0 0 0 1 = 0      # record 2
            back 0 0 = 1           # record 3
            mark = 4
            mark = 5
            crash = 5
            mend 0 false = 0
            begin = 1
            write 1 0 0 1 = 0
            write 1 0 0 2 = 1      # where a BACK was
            write 1 0 0 3 = 2      # where MARKS were
            write 1 0 0 4 = 3
            ofWork 1 2 = 4
            allOfRecord 2 = 1 1 0 0 0 1 1 -1 -1 -1
            allOfRecord 3 = 1 1 0 0 1 2 2 -1 -1 -1
            allOfRecord 5 = 1 1 0 0 3 4 4 -1 -1 -1
            house 3 = 0
            """);
        run("behind a crash .. (MARKS that are lost lose no BACK)", """
            begin = 0
            point 0 = 0
            write 0 0 0 1 = 0      # record 2
            write 0 0 0 2 = 1      # record 3
            back 0 0 = 2           # records 4 and 5
            mark = 6
            mark = 7
            mark = 8
            mark = 9
            force 6 = 6
            crash = 3
            ofWork 0 2 = 0
            mend 9 false = 4
            ofWork 0 2 = 0
            house 3 = 1
            """);
        run("KINDS: 0 BEGIN, 1 CHANGE, 2 BACK, 3 END, 4 GONE, 5 MARK, 6 TICKET", """
            begin = 0
            point 0 = 0
            write 0 2 1 77 = 0
            ticket 0 2 = 1
            back 0 0 = 1
            mark = 5
            end 0 = 1
            begin = 1
            roll 1 = 0
            allOfRecord 1 = 0 0 -1 -1 -1 -1 0 -1 -1 -1
            allOfRecord 2 = 1 0 2 1 0 77 1 -1 -1 -1
            allOfRecord 3 = 6 0 2 -1 0 1 2 -1 -1 -1
            allOfRecord 4 = 2 0 2 1 77 0 3 1 -1 -1
            allOfRecord 5 = 5 -1 -1 -1 -1 -1 0 -1 1 1
            allOfRecord 6 = 3 0 -1 -1 -1 -1 4 -1 -1 -1
            allOfRecord 7 = 0 1 -1 -1 -1 -1 0 -1 -1 -1
            allOfRecord 8 = 4 1 -1 -1 -1 -1 7 -1 -1 -1
            """);
        run("its PREVIOUS: the record that this WORK put last ahead of it (0: none)", """
            begin = 0
            begin = 1
            write 1 0 0 1 = 0      # record 3
            write 0 1 0 1 = 0      # record 4
            mark = 5
            write 1 0 1 1 = 0      # record 6
            ofRecord 1 6 = 0
            ofRecord 2 6 = 0
            ofRecord 3 6 = 2
            ofRecord 4 6 = 1
            ofRecord 5 6 = 0
            ofRecord 6 6 = 3
            """);
        run("its PREVIOUS: .. (a lost record is none)", """
            begin = 0
            write 0 0 0 1 = 0
            write 0 0 0 2 = 1
            begin = 1
            write 0 0 0 3 = 2
            force 2 = 2
            crash = 3
            mend 9 false = 2
            ofRecord 3 6 = 2       # the BACK is put behind record 2
            ofRecord 4 6 = 3
            """);
        run("CHANGE and BACK have PAGE, ROW, OLD and NEW VALUE, TICKET has PAGE, OLD and NEW TICKET; BACK has NEXT", """
            begin = 0
            write 0 5 3 999 = 0
            write 0 5 3 0 = 999
            ticket 0 5 = 1
            ticket 0 5 = 2
            roll 0 = 2
            allOfRecord 2 = 1 0 5 3 0 999 1 -1 -1 -1
            allOfRecord 3 = 1 0 5 3 999 0 2 -1 -1 -1
            allOfRecord 4 = 6 0 5 -1 0 1 3 -1 -1 -1
            allOfRecord 5 = 6 0 5 -1 1 2 4 -1 -1 -1
            allOfRecord 6 = 2 0 5 3 0 999 5 2 -1 -1
            allOfRecord 7 = 2 0 5 3 999 0 6 1 -1 -1
            """);
        run("To DO a record to its PAGE: ROW (TICKET) becomes NEW, NUMBER that of the record", """
            begin = 0
            write 0 1 2 40 = 0
            rows 1 0 = 0 0 40 0
            ofPage 1 7 = 0
            ticket 0 1 = 1
            rows 1 0 = 0 0 40 0
            ofPage 1 7 = 1
            ofPage 1 2 = 3
            rows 0 0 = 0 0 0 0
            rows 2 0 = 0 0 0 0
            roll 0 = 1
            rows 1 0 = 0 0 0 0
            ofPage 1 2 = 4
            """);
        run("As CHANGE, BACK or TICKET is put, its PAGE is GOT (as others are put, none is)", """
            begin = 0
            point 0 = 0
            mark = 2
            frames = -
            write 0 0 0 1 = 0
            ticket 0 1 = 1
            frames = 0* 1*
            begin = 1
            mark = 6
            end 1 = 1
            frames = 0* 1*
            read 0 2 0 = 0
            read 0 3 0 = 0
            read 0 4 0 = 0
            frames = 2 3 4
            back 0 0 = 1
            frames = 3 4 0*
            roll 0 = 0             # GONE
            frames = 3 4 0*
            """);
        run("SAFE tells up to which record the LOG is SAFE (0 at first). It is KEPT from some record on (from 1 at first)", """
            house 1 = 0
            house 2 = 1
            begin = 0
            house 1 = 0
            house 2 = 1
            force 1 = 1
            house 1 = 1
            house 2 = 1
            """);
    }

    private static void marks() {
        run("A MARK keeps two tables (both empty)", """
            mark = 1
            allOfRecord 1 = 5 -1 -1 -1 -1 -1 0 -1 0 0
            begin = 0
            write 0 0 0 1 = 0
            end 0 = 1
            flush 0 = 1
            begin = 1
            roll 1 = 0
            mark = 7               # ENDED, GONE, and a clean PAGE
            allOfRecord 7 = 5 -1 -1 -1 -1 -1 0 -1 0 0
            """);
        run("A MARK keeps two tables (both full): all OPEN WORKS, .. and all DIRTY PAGES", """
            begin = 0
            begin = 1
            begin = 2
            begin = 3
            write 0 0 0 1 = 0
            write 1 1 0 1 = 0
            ticket 2 2 = 1
            mark = 8
            allOfRecord 8 = 5 -1 -1 -1 -1 -1 0 -1 4 3
            end 0 = 1
            flush 0 = 1
            mark = 10
            allOfRecord 10 = 5 -1 -1 -1 -1 -1 0 -1 3 2
            allOfRecord 8 = 5 -1 -1 -1 -1 -1 0 -1 4 3
            """);
        run("all OPEN WORKS (an ENDING one is not OPEN)", """
            group 2 = 1
            begin = 0
            begin = 1
            end 0 = 0
            mark = 4
            ofRecord 4 8 = 1
            ofRecord 4 9 = 0
            """);
        run("all OPEN WORKS, each with the record that it put last", """
            begin = 0
            begin = 1
            write 1 1 0 5 = 0      # record 3
            write 0 0 0 6 = 0      # record 4
            write 1 1 1 7 = 0      # record 5
            flush 0 = 1
            flush 1 = 1
            mark = 6
            force 9 = 6
            wouldMends = 0 0 3 2 0 # nothing behind the MARK: all is in its tables
            crash = 0
            mend 3 false = 3
            ofRecord 7 7 = 3       # the BACK of record 5
            ofRecord 8 7 = 1       # of record 4, and its WORK goes on to its BEGIN
            ofRecord 9 7 = 2       # of record 3
            ofRecord 10 1 = 1      # GONE, as record 2 comes ahead of record 1
            ofRecord 11 1 = 0
            """);
        run("all DIRTY PAGES, each with its FROM", """
            begin = 0
            write 0 0 0 5 = 0      # record 2
            write 0 1 0 6 = 0      # record 3
            flush 0 = 1
            write 0 0 1 7 = 0      # record 4
            write 0 2 0 8 = 0      # record 5
            flush 2 = 1
            mark = 6               # PAGE 0 from 4, PAGE 1 from 3
            end 0 = 1
            ofRecord 6 9 = 2
            wouldMends = 1 2 0 0 3 # records 3 and 4
            crash = 0
            mend 2 false = 2
            frames = 1* 0*         # PAGE 2 was not got
            rows 0 0 = 5 7 0 0
            rows 1 0 = 6 0 0 0
            rows 2 0 = 8 0 0 0
            """);
        run("MARKS that are lost keep nothing", """
            begin = 0
            mark = 2
            force 2 = 2
            write 0 0 0 5 = 0
            mark = 4
            house 3 = 2
            force 1 = 3
            crash = 1
            house 3 = 1
            wouldMends = 1 1 1 1 3 # behind the MARK of record 2
            mend 2 false = 2
            house 3 = 1
            mark = 6
            ofRecord 6 8 = 0
            ofRecord 6 9 = 1
            house 3 = 2
            """);
    }

    private static void undoing() {
        run("To UNDO a WORK down to 0: all of it", """
            begin = 0
            write 0 0 0 1 = 0      # record 2
            write 0 1 1 2 = 0      # record 3
            ticket 0 1 = 1         # record 4
            write 0 0 0 3 = 1      # record 5
            roll 0 = 3
            allOfRecord 6 = 2 0 0 0 3 1 5 4 -1 -1
            allOfRecord 7 = 2 0 1 1 2 0 6 2 -1 -1
            allOfRecord 8 = 2 0 0 0 1 0 7 1 -1 -1
            allOfRecord 9 = 4 0 -1 -1 -1 -1 8 -1 -1 -1
            rows 0 0 = 0 0 0 0
            rows 1 0 = 0 0 0 0
            ofPage 1 7 = 1
            """);
        run("To UNDO a WORK down to 0 (it put nothing but its BEGIN)", """
            begin = 0
            roll 0 = 0
            house 0 = 2
            allOfRecord 2 = 4 0 -1 -1 -1 -1 1 -1 -1 -1
            """);
        run("To UNDO a WORK down to a record b: as long as u is above b", """
            begin = 0
            point 0 = 0            # at its BEGIN
            write 0 0 0 1 = 0      # record 2
            point 0 = 1            # at record 2
            back 0 1 = 0           # u is b
            house 0 = 2
            write 0 0 0 2 = 1      # record 3
            back 0 1 = 1
            allOfRecord 4 = 2 0 0 0 2 1 3 2 -1 -1
            value 0 0 0 = 1        # record 2 stays
            back 0 1 = 0
            house 0 = 4
            back 0 0 = 1
            allOfRecord 5 = 2 0 0 0 1 0 4 1 -1 -1
            value 0 0 0 = 0
            back 0 0 = 0
            house 0 = 5
            """);
        run("To UNDO .. down to a record of one WORK leaves all others", """
            begin = 0
            begin = 1
            write 1 0 0 1 = 0      # record 3
            point 1 = 0
            write 0 1 0 2 = 0      # record 4
            write 1 0 1 3 = 0      # record 5
            mark = 6
            back 1 0 = 1
            allOfRecord 7 = 2 1 0 1 3 0 5 3 -1 -1
            rows 0 0 = 1 0 0 0
            rows 1 0 = 2 0 0 0
            """);
        run("if u is a BACK, u becomes its NEXT", """
            begin = 0
            write 0 0 0 1 = 0      # record 2
            point 0 = 0
            write 0 0 0 2 = 1      # record 3
            point 0 = 1
            write 0 0 0 3 = 2      # record 4
            back 0 1 = 1           # record 5
            write 0 0 0 4 = 2      # record 6
            back 0 1 = 1           # record 7; then from 5 to 3
            allOfRecord 5 = 2 0 0 0 3 2 4 3 -1 -1
            allOfRecord 7 = 2 0 0 0 4 2 6 5 -1 -1
            back 0 0 = 1           # from 7 to 5 to 3
            allOfRecord 8 = 2 0 0 0 2 1 7 2 -1 -1
            roll 0 = 1             # from 8 to 2
            allOfRecord 9 = 2 0 0 0 1 0 8 1 -1 -1
            ofRecord 10 0 = 4
            """);
        run("if u is a BACK, u becomes its NEXT (a POINT that was set behind a BACK)", """
            begin = 0
            point 0 = 0
            write 0 0 0 1 = 0      # record 2
            back 0 0 = 1           # record 3, NEXT 1
            point 0 = 1            # at record 3
            back 0 1 = 0
            write 0 0 0 2 = 0      # record 4
            back 0 1 = 1           # record 5, NEXT 3
            ofRecord 5 7 = 3
            back 0 0 = 0           # from 5 to 3 to 1
            house 0 = 5
            roll 0 = 0
            house 0 = 6
            """);
        run("otherwise its PREVIOUS. (So TICKETS stay drawn.)", """
            begin = 0
            point 0 = 0
            ticket 0 0 = 1
            ticket 0 0 = 2
            back 0 0 = 0
            house 0 = 3
            ofPage 0 7 = 2
            write 0 0 0 1 = 0
            ticket 0 0 = 3
            back 0 0 = 1
            ofPage 0 7 = 3
            roll 0 = 0
            ofPage 0 7 = 3
            begin = 1
            ticket 1 0 = 4
            """);
        run("A CHANGE is UNDONE, if a BACK was put for it", """
            begin = 0
            point 0 = 0
            write 0 0 0 1 = 0
            write 0 0 0 1 = 1      # a CHANGE, too
            ofWork 0 2 = 2
            back 0 0 = 2
            ofWork 0 2 = 0
            write 0 0 0 1 = 0
            ofWork 0 2 = 1
            """);
        run("A CHANGE is UNDONE, if a BACK was put for it that is not lost", """
            begin = 0
            point 0 = 0
            write 0 0 0 1 = 0      # record 2
            write 0 0 1 2 = 0      # record 3
            force 9 = 3
            back 0 0 = 2           # records 4 (of 3) and 5 (of 2)
            ofWork 0 2 = 0
            force 1 = 4
            crash = 1
            ofWork 0 2 = 1         # that of record 2 is lost
            ofWork 0 1 = 4
            wouldMends = 4 3 1 1 2
            mend 9 false = 4       # 2, 3 and 4 again, and a BACK
            allOfRecord 5 = 2 0 0 0 1 0 4 1 -1 -1
            ofWork 0 2 = 0
            rows 0 0 = 0 0 0 0
            """);
    }

    private static void lostBacks() {
        // The SUM is right though the VALUES are not: so what stands in the ROW is not what the CHANGE wrote.
        run("if u is a CHANGE, a BACK is put, with OLD and NEW exchanged (those of the CHANGE)", """
            begin = 0
            write 0 0 0 999 = 0    # record 2
            flush 0 = 1
            spoil 0 0 = 1
            332 times spoil 0 2 = 1
            spoil 0 2 = 0
            read 0 1 0 = 0
            read 0 2 0 = 0
            read 0 3 0 = 0
            read 0 0 0 = 0
            write 0 0 2 7 = 333    # record 3: the VALUE before
            ofRecord 3 4 = 333
            force 9 = 3
            roll 0 = 2
            allOfRecord 4 = 2 0 0 2 7 333 3 2 -1 -1
            allOfRecord 5 = 2 0 0 0 999 0 4 1 -1 -1
            crash = 3
            mend 9 false = 3
            allOfRecord 4 = 2 0 0 2 7 333 3 2 -1 -1
            allOfRecord 5 = 2 0 0 0 999 0 4 1 -1 -1
            rows 0 0 = 0 0 333 0
            """);
        run("A BACK that was lost (all of them)", """
            begin = 0
            point 0 = 0
            write 0 0 0 1 = 0      # record 2
            write 0 0 1 2 = 0      # record 3
            write 0 1 0 3 = 0      # record 4
            force 9 = 4
            back 0 0 = 3
            mark = 8
            ofWork 0 2 = 0
            ofWork 0 1 = 7
            crash = 4
            ofWork 0 2 = 3
            ofWork 0 1 = 4
            wouldMends = 4 3 3 1 2
            mend 9 false = 6
            ofWork 0 2 = 0
            ofRecord 5 7 = 3
            ofRecord 8 0 = 4
            """);
        run("A BACK that was lost (its CHANGE was lost, too)", """
            begin = 0
            point 0 = 0
            write 0 0 0 1 = 0
            write 0 0 1 2 = 0
            force 2 = 2
            back 0 0 = 2
            crash = 3
            ofWork 0 2 = 1
            ofWork 0 1 = 2
            mend 9 false = 2
            allOfRecord 3 = 2 0 0 0 1 0 2 1 -1 -1
            ofRecord 4 0 = 4
            """);
    }

    private static final String SEVERAL = """
        group 2 = 1
        begin = 0
        write 0 0 0 5 = 0
        end 0 = 0
        begin = 1
        point 1 = 0
        write 1 1 0 6 = 0
        point 1 = 1
        write 1 1 1 7 = 0
        begin = 2
        write 2 0 0 8 = 5
        write 2 0 1 8 = 0
        write 2 0 2 8 = 0
        write 1 0 0 9 = -6
        write 2 1 0 9 = -6
        force 3 = 3
        pin 0 = 1
        mark = 11
        begin = 3
        begin = 4
        """;

    private static void refusals() {
        run("A method that throws an exception changes nothing (as the house is up)", SEVERAL + """
            ! begin = STATE
            ! read 0 0 0 = STATE
            ! read 5 0 0 = INDEX
            ! write 0 0 0 1 = STATE
            ! write 2 0 0 1000 = ARGUMENT
            ! write 1 0 0 -1 = ARGUMENT
            ! write 1 6 0 1 = INDEX
            ! lock 0 0 true = STATE
            ! lock 1 6 true = INDEX
            ! ticket 0 0 = STATE
            ! ticket 1 -1 = INDEX
            ! point 0 = STATE
            ! point 5 = INDEX
            ! back 1 2 = INDEX
            ! back 1 -1 = INDEX
            ! back 0 0 = INDEX
            ! roll 0 = STATE
            ! roll -1 = INDEX
            ! end 0 = STATE
            ! end 5 = INDEX
            ! group 0 = ARGUMENT
            ! pin 6 = INDEX
            ! unpin 1 = STATE
            ! unpin -1 = INDEX
            ! flush 6 = INDEX
            ! force 0 = ARGUMENT
            ! force 100 = ARGUMENT
            ! mend 5 true = STATE
            ! mend 1000 true = ARGUMENT
            ! spoil 6 0 = INDEX
            ! spoil 0 4 = INDEX
            ! restore -1 = INDEX
            ! follow 0 = ARGUMENT
            ! follow 100 = ARGUMENT
            """);
        run("A method that throws an exception changes nothing (as the house is DOWN)", SEVERAL + """
            crash = 10
            house 8 = 1
            ! begin = STATE
            ! read 1 0 0 = STATE
            ! write 1 0 0 1 = STATE
            ! lock 1 0 true = STATE
            ! ticket 1 0 = STATE
            ! point 1 = STATE
            ! back 1 0 = INDEX
            ! roll 1 = STATE
            ! end 1 = STATE
            ! group 1 = STATE
            ! breakRing = STATE
            ! pin 0 = STATE
            ! unpin 0 = STATE
            ! flush 0 = STATE
            ! force 1 = STATE
            ! mark = STATE
            ! cut = STATE
            ! mend -1 true = ARGUMENT
            ! spoil 0 -1 = INDEX
            ! restore 6 = INDEX
            ! follow 100 = ARGUMENT
            """);
        run("they tell a number and change nothing (but who waits, and counts)", SEVERAL + """
            house 12 = 2
            house 13 = 0
            ? write 2 1 0 9 = -6
            ? read 1 0 0 = -6
            ? lock 3 0 false = -6
            ? lock 4 1 true = -6
            pin 2 = 1
            pin 3 = 1
            spoil 4 0 = 1
            ? read 3 4 0 = -5
            ? write 3 5 0 1 = -7
            ? ticket 4 4 = -5
            ? ticket 1 5 = -7
            ? pin 4 = -5
            ? pin 1 = -7
            ? roll 1 = -7
            ? back 1 1 = -7
            ? restore 0 = -8
            ? breakRing = -7
            house 12 = 6
            house 13 = 10
            """);
        run("the first that is so: -6 .. -5 .. -7", """
            begin = 0
            begin = 1
            lock 0 4 true = 4
            write 1 0 0 1 = 0
            flush 0 = 1
            pin 1 = 1
            pin 2 = 1
            pin 3 = 1
            spoil 4 0 = 1
            read 1 4 0 = -6        # PAGE 4 is locked and TORN, and there is no FRAME
            write 1 4 0 1 = -6
            ticket 1 4 = -5        # no LOCK is needed
            pin 4 = -5
            roll 0 = 0
            read 1 4 0 = -5
            write 1 4 0 1 = -5
            restore 4 = 0
            read 1 4 0 = -7
            write 1 4 0 1 = -7
            ticket 1 4 = -7
            pin 4 = -7
            roll 1 = -7
            spoil 0 0 = 1
            roll 1 = -5
            unpin 2 = 0
            roll 1 = -5
            restore 0 = 1
            roll 1 = 1
            house 12 = 2
            house 13 = 11
            """);
        run("-8, if a PAGE is in a FRAME (TORN or not)", """
            pin 0 = 1
            ? restore 0 = -8
            spoil 0 0 = 1
            ? restore 0 = -8
            ofPage 0 6 = 1
            house 13 = 2
            restore 1 = 0
            house 13 = 2
            """);
    }

    /** What is asked changes nothing. */
    private static void questions() {
        List<String> rows = new ArrayList<>();
        for (String row : SEVERAL.split("\n")) {
            rows.add(row.substring(0, row.lastIndexOf('=')));
        }
        List<Runs.Call> calls = Runs.calls(rows);
        List<String> questions = Runs.questions(Runs.played(calls), false);
        for (int from = 0; from < questions.size(); from += 100) {
            List<String> asked = questions.subList(from, Math.min(questions.size(), from + 100));
            String difference = Runs.difference(calls, Runs.calls(asked), false);
            RUNS.check(difference == null, "questions: " + difference);
        }
    }

    public static void main(String[] args) {
        records();
        marks();
        undoing();
        lostBacks();
        refusals();
        questions();
        RUNS.finish("the log");
    }
}
