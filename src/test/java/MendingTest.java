/** The sentences of section 4, crashes and mending: the title of each run is the sentence that it looks at. */
public final class MendingTest {
    private static final Runs RUNS = new Runs();

    private MendingTest() {
    }

    private static void run(String title, String rows) {
        RUNS.run(title, rows);
    }

    private static void crashes() {
        run("As the house crashes, FRAMES and LOCKS and PINS and POINTS are lost", """
            begin = 0
            point 0 = 0
            lock 0 0 true = 4
            write 0 1 1 5 = 0
            read 0 2 0 = 0
            pin 1 = 1
            frames = 2 1*+
            force 9 = 2
            crash = 0
            frames = -
            allOfPage 1 = 0 0 0 0 0 0 0 0 0 0
            allOfWork 0 = 4 2 1 0 0 0 -1
            locks 0 0 = 0 0 0 0 0
            locks 0 1 = 0 0 0 0 0
            locks 0 2 = 0 0 0 0 0
            ! back 0 0 = INDEX
            mend 9 false = 2
            ofPage 1 4 = 0
            """);
        run("and all records that are not SAFE", """
            begin = 0
            write 0 0 0 1 = 0
            write 0 0 0 2 = 1
            mark = 4
            begin = 1
            force 3 = 3
            crash = 2
            house 0 = 3
            house 1 = 3
            house 3 = 0
            ! ofRecord 4 0 = INDEX
            """);
        run("each WORK whose END is SAFE is ENDED, each whose GONE is SAFE is GONE, each other one is LOST", """
            group 4 = 1
            begin = 0
            begin = 1
            begin = 2
            begin = 3
            end 0 = 0              # record 5
            roll 1 = 0             # record 6
            begin = 4              # record 7
            begin = 5              # record 8
            end 2 = 0              # record 9
            roll 3 = 0             # record 10
            force 8 = 8
            crash = 2
            ofWork 0 0 = 2
            ofWork 1 0 = 3
            ofWork 2 0 = 4         # its END is not SAFE
            ofWork 3 0 = 4         # its GONE is not SAFE
            ofWork 4 0 = 4
            ofWork 5 0 = 4
            ofWork 2 1 = 3
            ofWork 3 1 = 4
            """);
        run("(GONE, if its BEGIN is not SAFE)", """
            begin = 0
            begin = 1
            begin = 2
            write 2 0 0 1 = 0
            force 2 = 2
            group 2 = 1
            end 2 = 0
            crash = 3
            ofWork 0 0 = 4
            ofWork 1 0 = 4
            allOfWork 2 = 3 0 0 0 0 0 -1
            mend 0 false = 0
            ofWork 2 0 = 3
            ofWork 2 1 = 0
            wouldMends = 4 0 0 0 0 # no one is open
            begin = 3
            """);
        run("The house is DOWN", """
            house 8 = 0
            house 11 = 0
            crash = 0
            house 8 = 1
            house 11 = 1
            ! begin = STATE
            mend 0 false = 0
            house 8 = 0
            house 11 = 1
            begin = 0
            """);
        run("a crash of a house that is DOWN", """
            begin = 0
            write 0 0 0 1 = 0
            force 9 = 2
            crash = 0
            crash = 0
            crash = 0
            house 11 = 3
            house 8 = 1
            ofWork 0 0 = 4
            house 0 = 2
            mend 2 false = 2
            house 8 = 0
            house 11 = 3
            """);
        run("a crash with nothing SAFE", """
            begin = 0
            write 0 0 0 5 = 0
            begin = 1
            mark = 4
            crash = 4
            allOfHouse = 0 0 1 0 2 0 0 1 1 0 0 1 0 0 0
            ofWork 0 0 = 3
            ofWork 1 0 = 3
            wouldMends = 0 0 0 0 0
            mend 0 true = 0
            allOfHouse = 0 0 1 0 2 0 0 1 0 0 0 1 0 0 0
            frames = -
            value 0 0 0 = 0
            """);
        run("a crash with all SAFE", """
            begin = 0
            write 0 0 0 5 = 0
            end 0 = 1
            begin = 1
            mark = 5
            force 9 = 5
            crash = 0
            house 0 = 5
            house 3 = 1
            mend 1 false = 1       # record 2, as PAGE 0 is in the MARK's table
            house 0 = 6
            value 0 0 0 = 5
            """);
        run("a crash leaves SAFE copies, COPIES, the MIRROR, GROUP, and what is KEPT", """
            group 3 = 1
            begin = 0
            write 0 0 0 5 = 0
            flush 0 = 1
            copy = 0
            follow 1 = 1
            write 0 0 0 6 = 5
            roll 0 = 2
            force 9 = 6
            cut = 1
            knock = 1
            crash = 0
            values 0 0 = 5 5 5 0
            ofPage 0 5 = 2
            ofPage 0 8 = 2
            allOfHouse = 6 6 2 0 1 0 0 3 1 1 0 1 0 0 1
            """);
    }

    private static void torn() {
        run("First each PAGE whose SAFE copy is TORN is restored (no STEP)", """
            begin = 0
            write 0 0 0 5 = 0
            ticket 0 3 = 1
            end 0 = 1
            spoil 0 1 = 1
            spoil 3 0 = 1
            spoil 4 2 = 1
            crash = 0
            wouldMends = 4 0 0 0 2
            mend 0 false = 0
            house 8 = 0
            house 10 = 0
            rows 0 1 = 5 0 0 0
            rows 3 1 = 0 0 0 0
            rows 4 1 = 0 0 0 0     # no record is of it
            ofPage 0 5 = 2
            ofPage 0 6 = 0
            ofPage 3 7 = 1
            ofPage 4 6 = 0
            frames = 0 3           # GOT all the same, and nothing is DONE
            """);
        run("First each PAGE .. is restored (also if there is no STEP let for what follows)", """
            begin = 0
            write 0 0 0 5 = 0
            write 0 1 0 6 = 0
            force 9 = 3
            spoil 1 1 = 1
            crash = 0
            mend 0 false = 0
            house 8 = 1
            house 11 = 2
            rows 1 1 = 6 0 0 0     # restored, with what will be UNDONE
            ofPage 1 6 = 0
            rows 0 1 = 0 0 0 0
            wouldMends = 3 1 2 1 2
            mend 3 false = 3
            rows 1 0 = 0 0 0 0
            """);
        run("First each PAGE .. is restored (from its COPY, and the records that are KEPT)", """
            begin = 0
            write 0 0 0 5 = 0
            end 0 = 1
            flush 0 = 1
            copy = 0
            follow 9 = 3
            cut = 3
            begin = 1
            write 1 0 1 6 = 0
            end 1 = 1
            spoil 0 0 = 1
            spoil 0 2 = 1
            afterMends 0 0 = 5 6 0 0
            crash = 0
            mend 0 true = 0
            rows 0 1 = 5 6 0 0
            ofPage 0 5 = 5
            """);
        run("a TORN page ahead of MENDING, with a WORK that is LOST", """
            begin = 0
            write 0 0 0 5 = 0
            flush 0 = 1
            copy = 0
            write 0 0 0 6 = 5
            force 9 = 3
            spoil 0 0 = 1
            crash = 0
            wouldMends = 3 0 2 1 2
            mend 2 false = 2
            value 0 0 0 = 0
            isSound = true
            """);
        run("only TORN ones are restored", """
            begin = 0
            write 0 0 0 5 = 0
            write 0 1 0 6 = 0
            end 0 = 1
            spoil 1 0 = 1
            crash = 0
            mend 0 false = 0       # PAGE 0 is not TORN: its record would be a STEP
            house 8 = 1
            ofPage 0 5 = 0
            ofPage 1 5 = 3
            mend 1 false = 1
            house 8 = 0
            """);
    }

    private static void tables() {
        run("Then tables, .. (empty ones without one). Then, for each KEPT record (each KEPT one without one)", """
            begin = 0
            write 0 0 0 5 = 0
            begin = 1
            ticket 1 1 = 1
            end 0 = 1
            wouldMends = 5 2 0 1 2
            crash = 0
            mend 2 false = 2
            house 0 = 6
            ofRecord 6 1 = 1
            frames = 0* 1*
            """);
        run("those of the last SAFE MARK that is KEPT", """
            begin = 0
            write 0 0 0 5 = 0
            mark = 3
            write 0 0 1 6 = 0
            mark = 5
            write 0 0 2 7 = 0
            mark = 7
            force 6 = 6
            wouldMends = 1 3 3 1 2 # behind record 5: record 7 is not SAFE
            force 9 = 7
            wouldMends = 0 3 3 1 2
            crash = 0
            mend 5 false = 5
            house 8 = 1
            mend 6 false = 6
            house 8 = 0
            rows 0 0 = 0 0 0 0
            """);
        run("of the last SAFE MARK (a MARK that is not SAFE is lost)", """
            begin = 0
            write 0 0 0 5 = 0
            mark = 3
            force 2 = 2
            wouldMends = 2 1 1 1 2
            crash = 1
            wouldMends = 2 1 1 1 2
            mend 2 false = 2
            """);
        run("of the last SAFE MARK that is KEPT (behind a MARK that is not KEPT any more)", """
            begin = 0
            mark = 2
            end 0 = 1
            begin = 1              # record 4
            write 1 0 0 5 = 0      # record 5
            mark = 6
            write 1 0 1 6 = 0      # record 7
            force 9 = 7
            follow 9 = 7
            cut = 3                # up to the BEGIN of WORK 1
            house 3 = 1
            wouldMends = 1 2 2 1 5
            end 1 = 1
            flush 0 = 1
            copy = 0
            follow 9 = 8
            begin = 2              # record 9
            write 2 1 0 7 = 0      # record 10
            force 9 = 10
            follow 9 = 10
            cut = 5                # the MARK of record 6 is not KEPT any more
            house 2 = 9
            house 3 = 0
            wouldMends = 2 1 1 1 10
            crash = 0
            mend 2 false = 2
            house 8 = 0
            rows 0 0 = 5 6 0 0
            rows 1 0 = 0 0 0 0
            frames = 1*
            """);
        run("behind a FROM that is not KEPT any more", """
            begin = 0
            write 0 0 0 5 = 0      # record 2
            end 0 = 1
            begin = 1              # record 4
            write 1 0 1 6 = 0      # record 5
            mark = 6               # PAGE 0 from 2
            force 9 = 6
            flush 0 = 1
            copy = 0
            follow 9 = 6
            cut = 3
            house 2 = 4
            house 3 = 1
            wouldMends = 0 0 1 1 2
            write 1 0 2 7 = 0      # record 7
            force 9 = 7
            wouldMends = 1 1 2 1 2
            afterMends 1 0 = 5 0 0 0
            crash = 0
            mend 3 false = 3
            house 8 = 0
            rows 0 0 = 5 0 0 0
            frames = 0*
            isSound = true
            """);
        run("BEGIN, CHANGE, BACK, TICKET: its WORK is in the table, with that record", """
            begin = 0              # BEGIN is the last record of WORK 0
            begin = 1
            write 1 0 0 5 = 0      # record 3, CHANGE
            begin = 2
            point 2 = 0
            write 2 1 0 6 = 0      # record 5
            back 2 0 = 1           # record 6, BACK
            begin = 3
            write 3 2 0 7 = 0      # record 8
            ticket 3 2 = 1         # record 9, TICKET
            force 9 = 9
            wouldMends = 9 5 2 4 3
            crash = 0
            mend 7 false = 7
            house 8 = 0
            ofRecord 10 7 = 7      # from 9 to 8: BACK of it
            ofRecord 11 1 = 3      # from 7 to 0: GONE
            ofRecord 12 1 = 2      # from 6 to 4 to 0: GONE, no BACK
            ofRecord 13 7 = 2      # BACK of record 3
            ofRecord 14 1 = 1
            ofRecord 15 1 = 0
            house 0 = 15
            ofPage 2 7 = 1
            rows 2 0 = 0 0 0 0
            """);
        run("END, GONE: its WORK is out of it", """
            group 4 = 1
            begin = 0
            begin = 1
            begin = 2
            write 0 0 0 5 = 0
            write 1 1 0 6 = 0
            mark = 6               # all three are in its table
            end 0 = 0
            roll 1 = 1
            force 9 = 9
            wouldMends = 3 3 0 1 4
            crash = 0
            mend 3 false = 3
            house 0 = 10
            ofRecord 10 0 = 4
            ofRecord 10 1 = 2
            rows 0 0 = 5 0 0 0
            rows 1 0 = 0 0 0 0
            """);
        run("CHANGE, BACK, TICKET: its PAGE is in the table, if it is not yet, FROM that record", """
            begin = 0
            point 0 = 0
            ticket 0 0 = 1         # record 2
            write 0 1 0 5 = 0      # record 3
            write 0 2 0 6 = 0      # record 4
            write 0 1 0 7 = 5      # record 5
            flush 1 = 1
            force 9 = 5
            wouldMends = 5 2 3 1 2 # PAGE 1 is written
            back 0 0 = 3           # records 6 to 8
            mark = 9
            end 0 = 1
            flush 0 = 1
            mark = 11              # PAGE 1 from 6, PAGE 2 from 4
            force 9 = 11
            wouldMends = 0 4 0 0 4
            flush 2 = 1
            flush 1 = 1
            mark = 12
            force 9 = 12
            wouldMends = 0 0 0 0 0
            begin = 1
            ticket 1 2 = 1         # record 14
            write 1 2 0 9 = 0
            force 9 = 15
            wouldMends = 3 2 1 1 14
            """);
        run("its PAGE is in the table .. FROM that record (a BACK behind the MARK)", """
            begin = 0
            point 0 = 0
            write 0 0 0 5 = 0
            flush 0 = 1
            mark = 3
            back 0 0 = 1           # record 4
            force 9 = 4
            wouldMends = 1 1 0 1 4
            crash = 0
            mend 1 false = 1
            value 0 0 0 = 0
            ofPage 0 3 = 4
            """);
    }

    private static void doingAgain() {
        run("Then each KEPT record .. its PAGE is GOT, and, if its NUMBER is below the record, the record is DONE: a STEP", """
            begin = 0
            write 0 0 0 1 = 0      # record 2
            write 0 0 1 2 = 0      # record 3
            flush 0 = 1
            write 0 0 2 3 = 0      # record 4
            write 0 1 0 4 = 0      # record 5
            flush 1 = 1
            ticket 0 2 = 1         # record 6
            end 0 = 1
            wouldMends = 7 2 0 0 2
            crash = 0
            mend 2 true = 2
            house 10 = 2
            frames = 0* 1 2*       # PAGE 1 is GOT, and nothing is DONE
            ofPage 0 3 = 4         # DIRTY from record 4 on
            ofPage 2 3 = 6
            ofPage 1 3 = 0
            rows 0 0 = 1 2 3 0
            rows 0 1 = 1 2 0 0
            """);
        run("that has a PAGE which is in the table (others are not GOT)", """
            begin = 0
            write 0 0 0 1 = 0      # record 2
            write 0 1 0 2 = 0      # record 3
            write 0 2 0 3 = 0      # record 4
            flush 1 = 1
            mark = 5               # PAGE 0 from 2, PAGE 2 from 4
            end 0 = 1
            crash = 0
            wouldMends = 1 2 0 0 2
            mend 9 false = 2
            frames = 0* 2*
            """);
        run("with a FROM not above it", """
            begin = 0
            write 0 1 0 1 = 0      # record 2
            write 0 0 0 2 = 0      # record 3
            write 0 1 1 3 = 0      # record 4
            write 0 2 0 4 = 0      # record 5
            flush 1 = 1
            flush 2 = 1
            mark = 6               # PAGE 0 from 3
            write 0 2 1 5 = 0      # record 7
            write 0 3 0 6 = 0      # record 8
            write 0 1 0 7 = 1      # record 9, as PAGE 0 leaves
            end 0 = 1
            ofPage 0 5 = 3
            crash = 0
            wouldMends = 4 3 0 0 3
            mend 1 false = 1       # record 7; PAGE 3 is GOT for record 8: 0, 2 and 3, and PAGE 1 was not yet
            ofPage 2 5 = 5
            mend 2 false = 2       # 7 and 8; then PAGE 1 comes, and PAGE 0 leaves
            ofPage 2 5 = 5
            mend 3 false = 3
            house 8 = 0
            frames = 2* 3* 1*
            """);
        run("with a FROM not above it (an earlier record would bring its PAGE into a FRAME)", """
            begin = 0
            write 0 1 0 1 = 0      # record 2
            write 0 0 0 2 = 0      # record 3
            flush 1 = 1
            write 0 1 1 3 = 0      # record 4
            flush 1 = 1
            mark = 5               # PAGE 0 from 3
            write 0 2 0 4 = 0      # record 6
            write 0 3 0 5 = 0      # record 7: PAGE 0 is the one that was not used for longest
            write 0 1 0 6 = 1      # record 8
            end 0 = 1
            crash = 0
            restore 0 = 1
            mend 0 false = 0       # PAGE 0 and PAGE 2 are GOT
            house 8 = 1
            mend 1 false = 1       # PAGE 3, too
            mend 2 false = 2       # and PAGE 1: PAGE 0 leaves
            mend 3 false = 3
            frames = 2* 3* 1*
            """);
        run("Then each KEPT record (a PAGE that leaves meanwhile is WRITTEN, and comes again)", """
            begin = 0
            write 0 0 0 1 = 0      # records 2 to 6
            write 0 1 0 2 = 0
            write 0 2 0 3 = 0
            write 0 3 0 4 = 0
            write 0 0 1 5 = 0
            end 0 = 1
            spoil 0 0 = 1
            spoil 0 0 = 1
            crash = 0
            restore 0 = 2
            ofPage 1 5 = 3         # it was WRITTEN as PAGE 0 came again
            mend 0 false = 0
            house 8 = 1
            takeOver = 2
            ofPage 2 5 = 4
            mend 0 false = 0
            house 8 = 0
            frames = 2 3 0
            """);
        run("a MENDING that crashes leaves what was WRITTEN", """
            begin = 0
            write 0 0 0 1 = 0      # record 2
            write 0 1 0 2 = 0      # record 3
            write 0 2 0 3 = 0      # record 4
            pin 0 = 1
            pin 1 = 1
            pin 2 = 1
            write 0 0 1 4 = 0      # record 5
            unpin 2 = 0
            force 9 = 5
            end 0 = 1
            begin = 1
            write 1 3 0 5 = 0      # record 8, PAGE 2 leaves
            force 9 = 8
            crash = 0
            ofPage 2 5 = 4
            mend 3 false = 3       # 2, 3 and 5; PAGE 3 is GOT: PAGE 1 leaves
            house 8 = 1
            ofPage 0 5 = 0
            ofPage 1 5 = 3
            house 11 = 2
            mend 3 false = 3       # 2, 5 and 8; then no STEP for the BACK
            house 11 = 3
            ofPage 3 5 = 0
            mend 9 false = 4
            house 8 = 0
            house 10 = 10
            """);
    }

    private static void undoing() {
        run("Then, as long as a WORK is in the table: of those in it the one whose u is the greatest", """
            begin = 0              # record 1
            begin = 1              # record 2
            write 0 0 0 1 = 0      # record 3
            write 1 1 0 2 = 0      # record 4
            write 1 1 1 3 = 0      # record 5
            write 0 0 1 4 = 0      # record 6
            force 9 = 6
            crash = 0
            mend 99 false = 8
            ofRecord 7 7 = 3       # of record 6
            ofRecord 8 7 = 4       # of record 5
            ofRecord 9 7 = 2       # of record 4
            ofRecord 10 7 = 1      # of record 3
            allOfRecord 11 = 4 1 -1 -1 -1 -1 9 -1 -1 -1
            allOfRecord 12 = 4 0 -1 -1 -1 -1 10 -1 -1 -1
            allOfRecord 7 = 2 0 0 1 4 0 6 3 -1 -1
            house 0 = 12
            house 1 = 12
            """);
        run("at once, as u becomes 0, GONE of that WORK is put, it is GONE and out of the table", """
            begin = 0
            write 0 0 0 1 = 0      # record 2
            begin = 1              # record 3
            write 1 1 0 2 = 0      # record 4
            force 9 = 4
            crash = 0
            mend 3 false = 3       # 2 and 4 again, BACK of 4
            house 8 = 1
            ofWork 1 0 = 4         # its GONE was lost with the rest
            house 0 = 4
            mend 4 true = 4
            house 8 = 0
            ofRecord 5 7 = 3
            allOfRecord 6 = 4 1 -1 -1 -1 -1 5 -1 -1 -1
            ofRecord 7 7 = 1
            allOfRecord 8 = 4 0 -1 -1 -1 -1 7 -1 -1 -1
            """);
        run("u goes on once as there (TICKETS stay drawn; a BACK leads to its NEXT)", """
            begin = 0
            point 0 = 0
            write 0 0 0 1 = 0      # record 2
            write 0 0 0 2 = 1      # record 3
            ticket 0 0 = 1         # record 4
            back 0 0 = 2           # records 5 (of 3) and 6 (of 2)
            write 0 0 1 9 = 0      # record 7
            force 5 = 5
            crash = 2
            wouldMends = 5 4 1 1 2
            mend 9 false = 5
            ofRecord 6 7 = 1       # BACK of record 2
            house 0 = 7
            rows 0 0 = 0 0 0 0
            ofPage 0 7 = 1
            """);
        run("Then the whole LOG becomes SAFE, and the house is not DOWN any more", """
            begin = 0
            begin = 1
            force 9 = 2
            crash = 0
            house 1 = 2
            mend 0 false = 0
            house 0 = 4
            house 1 = 4
            house 8 = 0
            ofRecord 3 1 = 1
            ofRecord 4 1 = 0
            crash = 0
            ofWork 0 0 = 3
            ofWork 1 0 = 3
            """);
        run("what is UNDONE has no LOCKS, and waits for none", """
            begin = 0
            begin = 1
            write 0 0 0 1 = 0
            write 1 0 0 1 = -6
            force 9 = 3
            crash = 0
            mend 9 false = 2
            begin = 2
            write 2 0 0 1 = 0
            house 12 = 1
            ring = -
            """);
    }

    private static void steps() {
        run("MENDING with 0 STEPS let (there is none to make)", """
            begin = 0
            end 0 = 1
            begin = 1
            begin = 2
            force 9 = 4
            crash = 0
            mend 0 false = 0
            house 8 = 0
            house 0 = 6            # GONE is no STEP
            house 10 = 0
            house 11 = 1
            """);
        run("MENDING with 0 STEPS let (of an empty LOG)", """
            crash = 0
            mend 0 true = 0
            house 8 = 0
            house 0 = 0
            """);
        run("If a STEP would be one more than are let, the house crashes again at that moment (a record DONE again)", """
            begin = 0
            write 0 0 0 1 = 0
            write 0 0 1 2 = 0
            write 0 0 2 3 = 0
            end 0 = 1
            crash = 0
            mend 0 false = 0
            house 8 = 1
            house 11 = 2
            house 10 = 0
            mend 2 false = 2       # one too few
            house 8 = 1
            house 11 = 3
            house 10 = 2
            frames = -
            mend 3 false = 3       # just enough
            house 8 = 0
            house 11 = 3
            house 10 = 5
            """);
        run("If a STEP would be one more than are let, the house crashes again at that moment (a BACK)", """
            begin = 0
            write 0 0 0 1 = 0
            write 0 0 1 2 = 0
            force 9 = 3
            flush 0 = 1
            crash = 0
            mend 0 false = 0       # the first BACK
            house 8 = 1
            mend 1 false = 1       # the second: one too few
            house 8 = 1
            house 0 = 3            # the first one is lost
            ofWork 0 2 = 2
            ofWork 0 0 = 4
            mend 2 false = 2       # just enough
            house 8 = 0
            house 0 = 6
            house 10 = 3
            house 11 = 3
            """);
        run("the PAGE of a record that would be DONE again is GOT then already", """
            begin = 0
            write 0 0 0 1 = 0
            write 0 1 0 2 = 0
            write 0 2 0 3 = 0
            write 0 3 0 4 = 0      # PAGE 0 left
            write 0 4 0 5 = 0      # PAGE 1 left
            end 0 = 1
            takeOver = 3
            mend 0 false = 0
            begin = 1
            write 1 0 0 6 = 1      # record 9
            write 1 1 0 7 = 2      # record 10
            write 1 2 0 8 = 3      # record 11
            write 1 5 0 9 = 0      # record 12, PAGE 0 left
            force 9 = 12
            ofPage 0 5 = 9
            crash = 0
            mend 1 false = 1       # 10; PAGE 2 is GOT for 11, and nothing DIRTY leaves
            ofPage 1 5 = 3
            mend 2 false = 2       # 10 and 11; PAGE 5 is GOT for 12: PAGE 0 leaves, and is clean
            ofPage 1 5 = 3
            mend 3 false = 3       # 10 to 12; then no STEP for a BACK
            house 8 = 1
            mend 7 false = 7
            house 8 = 0
            """);
        run("the PAGE of a record that would be DONE again is GOT then already (as the one that leaves is DIRTY)", """
            begin = 0
            write 0 0 0 1 = 0      # record 2
            write 0 1 0 2 = 0      # record 3
            write 0 2 0 3 = 0      # record 4
            pin 1 = 1
            pin 2 = 1
            pin 0 = 1
            force 9 = 4
            end 0 = 1
            unpin 1 = 0
            begin = 1
            write 1 3 0 4 = 0      # record 7, PAGE 1 leaves
            force 9 = 7
            crash = 0
            mend 2 false = 2       # 2 and 4; PAGE 3 is GOT: PAGE 0, which is DIRTY then, leaves
            house 8 = 1
            ofPage 0 5 = 2
            ofPage 2 5 = 0
            mend 1 false = 1       # 4; PAGE 3 is GOT: PAGE 0 leaves, and is clean
            ofPage 2 5 = 0
            mend 3 false = 3       # 4 and 7, and its BACK
            house 8 = 0
            """);
        run("that of a BACK is not", """
            begin = 0
            write 0 0 0 1 = 0      # record 2
            write 0 1 0 2 = 0      # record 3
            flush 0 = 1
            flush 1 = 1
            begin = 1
            write 1 2 0 3 = 0      # record 5
            write 1 3 0 4 = 0      # record 6, PAGE 0 leaves
            write 1 4 0 5 = 0      # record 7, PAGE 1 leaves
            force 9 = 7
            crash = 0
            mend 3 false = 3       # 5 to 7: PAGES 2, 3 and 4; then no STEP for a BACK
            house 8 = 1
            ofPage 2 5 = 0
            mend 5 false = 5       # BACKS of 7 and 6
            house 8 = 1
            ofPage 2 5 = 0
            mend 6 false = 6       # BACK of 5; PAGE 1 is not GOT for the next: PAGE 4 would leave for it
            house 8 = 1
            ofPage 4 5 = 0
            mend 7 false = 7       # BACK of 3: PAGE 4 leaves, and so its BACK is SAFE
            house 8 = 1
            ofPage 4 5 = 8
            house 1 = 8
            house 0 = 8
            wouldMends = 8 2 4 2 2
            mend 4 true = 4
            house 8 = 1
            house 0 = 10
            mend 99 true = 6
            house 8 = 0
            """);
        run("isForced: whether the whole LOG becomes SAFE behind each STEP", """
            begin = 0
            write 0 0 0 1 = 0      # record 2
            write 0 0 1 2 = 0      # record 3
            write 0 0 2 3 = 0      # record 4
            force 9 = 4
            flush 0 = 1
            crash = 0
            mend 2 false = 2       # BACKS of 4 and 3, both lost
            house 0 = 4
            house 1 = 4
            mend 2 true = 2        # both are SAFE
            house 0 = 6
            house 1 = 6
            ofWork 0 2 = 1
            ofWork 0 1 = 6
            wouldMends = 6 2 1 1 2
            mend 2 true = 2        # the two BACKS are DONE again
            house 8 = 1
            house 0 = 6
            mend 3 true = 3
            house 8 = 0
            house 0 = 8
            rows 0 0 = 0 0 0 0
            """);
        run("isForced: .. behind each STEP (a GONE that is put behind it is not SAFE by that)", """
            begin = 0
            write 0 0 0 1 = 0      # record 2
            begin = 1
            write 1 1 0 2 = 0      # record 4
            force 9 = 4
            flush 0 = 1
            flush 1 = 1
            crash = 0
            mend 1 true = 1        # BACK of record 4, and then GONE, which is lost
            house 0 = 5
            ofWork 1 0 = 4
            mend 1 true = 1        # the BACK again: and no STEP for the other one
            house 0 = 5
            mend 2 true = 2        # that, and the BACK of record 2, with which GONE of WORK 1 is SAFE
            house 8 = 0
            house 0 = 8
            allOfRecord 6 = 4 1 -1 -1 -1 -1 5 -1 -1 -1
            allOfRecord 7 = 2 0 0 0 1 0 2 1 -1 -1
            """);
        run("isForced: .. behind each STEP (a GONE is SAFE with the next one)", """
            begin = 0
            write 0 0 0 1 = 0      # record 2
            write 0 0 1 2 = 0      # record 3
            begin = 1
            write 1 1 0 3 = 0      # record 5
            force 9 = 5
            flush 0 = 1
            flush 1 = 1
            crash = 0
            mend 2 true = 2        # BACK of 5, GONE of WORK 1, BACK of 3
            house 8 = 1
            house 0 = 8
            ofWork 1 0 = 3
            ofWork 0 0 = 4
            wouldMends = 8 2 1 1 2
            mend 3 false = 3
            house 8 = 0
            house 0 = 10
            """);
        run("how many STEPS were made; STEPS ever", """
            begin = 0
            write 0 0 0 1 = 0
            force 9 = 2
            crash = 0
            mend 999 false = 2
            house 10 = 2
            crash = 0
            mend 999 false = 2     # the CHANGE and the BACK again
            house 10 = 4
            flush 0 = 1
            crash = 0
            mend 999 false = 0
            house 10 = 4
            """);
        run("if a STEP would be one more than are let: also behind the greatest number that can be let", """
            begin = 0
            write 0 0 0 5 = 0
            499 times write 0 0 0 5 = 5
            force 99 = 99
            force 99 = 198
            force 99 = 297
            force 99 = 396
            force 99 = 495
            force 99 = 501
            crash = 0
            mend 999 true = 999    # 500 CHANGES again, and 499 BACKS
            house 0 = 1000
            mend 999 false = 999   # all these again: and no STEP for the last BACK
            house 8 = 1
            """);
        run("a WORK that is mended is GONE, and no second MENDING puts more", """
            begin = 0
            write 0 0 0 1 = 0
            force 9 = 2
            crash = 0
            mend 9 false = 2
            ofWork 0 0 = 3
            house 0 = 4
            crash = 0
            ofWork 0 0 = 3
            wouldMends = 4 2 0 0 2
            mend 9 false = 2
            house 0 = 4
            ofWork 0 2 = 0
            """);
    }

    public static void main(String[] args) {
        crashes();
        torn();
        tables();
        doingAgain();
        undoing();
        steps();
        RUNS.finish("crashes and mending");
    }
}
