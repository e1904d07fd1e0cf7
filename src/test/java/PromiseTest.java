/** A run of calls on a new object, or several, for each promise of the document; Runs tells how a run is written. */
public final class PromiseTest {
    private static final Runs RUNS = new Runs();

    private PromiseTest() {
    }

    private static void run(String title, String rows) {
        RUNS.run(title, rows);
    }

    private static void works() {
        run("promise 1: a new object", """
            house 0 = 0
            house 1 = 0
            house 2 = 1
            house 3 = 0
            house 4 = 0
            house 5 = 0
            house 6 = 0
            house 7 = 1
            house 8 = 0
            house 9 = 0
            house 10 = 0
            house 11 = 0
            house 12 = 0
            house 13 = 0
            house 14 = 0
            frames = -
            ring = -
            value 5 3 0 = 0
            value 5 3 3 = 0
            ofPage 5 6 = 0
            ofPage 0 2 = 0
            owes 0 0 = -1
            isSound = true
            """);
        run("promise 2: begin", """
            begin = 0
            ofRecord 1 0 = 0
            ofRecord 1 1 = 0
            ofRecord 1 2 = -1
            ofRecord 1 6 = 0
            begin = 1
            begin = 2
            begin = 3
            begin = STATE          # 4 are open
            house 4 = 4
            house 0 = 4
            group 4 = 1
            end 1 = 0              # ending ones are not open
            begin = 4
            begin = STATE
            crash = 6
            begin = STATE          # down
            mend 0 false = 0
            begin = 5              # numbers are not used again
            ofRecord 1 1 = 5
            """);
        run("promise 3: read", """
            begin = 0
            begin = 1
            read 0 2 3 = 0
            write 0 2 3 77 = 0
            read 0 2 3 = 77
            frames = 2*
            read 1 2 3 = -6
            ofWork 1 5 = 1
            end 0 = 1
            read 1 2 3 = 77
            lockOf 1 2 3 = 1
            lockOf 1 2 -1 = 1
            lock 1 2 false = 3
            read 1 2 0 = 0
            lockOf 1 2 0 = 0       # SHARED on the page is enough
            spoil 3 0 = 1
            read 1 3 0 = -5
            lockOf 1 3 0 = 0       # nothing was changed
            lockOf 1 3 -1 = 0
            pin 0 = 1
            pin 1 = 1
            pin 2 = 1
            read 1 3 0 = -5        # -5 comes ahead of -7
            read 1 4 0 = -7
            ofWork 1 4 = 2
            house 13 = 3
            read 2 0 0 = INDEX
            read -1 0 0 = INDEX
            read 0 6 0 = INDEX
            read 0 -1 0 = INDEX
            read 0 0 4 = INDEX
            read 0 0 -1 = INDEX
            read 0 0 0 = STATE     # it has ended
            crash = 0
            read 1 0 0 = STATE
            """);
        run("promise 4: write", """
            begin = 0
            write 0 1 2 999 = 0
            write 0 1 2 0 = 999
            ofRecord 3 0 = 1
            ofRecord 3 1 = 0
            ofRecord 3 2 = 1
            ofRecord 3 3 = 2
            ofRecord 3 4 = 999
            ofRecord 3 5 = 0
            ofRecord 3 6 = 2
            ofRecord 3 7 = -1
            write 0 1 2 0 = 0      # the same value is a CHANGE, too
            house 0 = 4
            write 1 0 0 0 = INDEX
            write 0 6 0 0 = INDEX
            write 0 0 4 0 = INDEX
            write 0 0 4 1000 = INDEX
            write 0 0 0 1000 = ARGUMENT
            write 0 0 0 -1 = ARGUMENT
            begin = 1
            write 1 1 2 5 = -6
            write 1 1 1 5 = 0      # another row
            end 0 = 1
            write 0 0 0 1000 = ARGUMENT
            write 0 0 0 1 = STATE
            write 1 1 2 5 = 0
            spoil 2 0 = 1
            write 1 2 0 1 = -5
            pin 3 = 1
            pin 4 = 1
            pin 5 = 1
            frames = 3+ 4+ 5+
            write 1 0 0 1 = -7
            lockOf 1 0 0 = 0
            house 0 = 8
            ofPage 1 5 = 8         # page 1 left and was written
            house 1 = 8
            """);
        run("promise 5: lock", """
            begin = 0
            begin = 1
            begin = 2
            lock 0 0 false = 3
            lock 0 0 false = 3
            lock 1 0 false = 3
            lock 1 0 true = -6
            ofWork 1 6 = 0
            lockOf 1 0 -1 = 3
            read 2 0 0 = 0
            lockOf 2 0 -1 = 1
            write 2 0 0 1 = -6
            ofWork 2 6 = 0
            lock 2 0 false = 3     # 1 becomes 3
            lock 0 1 true = 4
            lock 0 1 false = 4     # 4 stays
            frames = 0             # lock() gets no page
            write 1 2 0 7 = 0
            lockOf 1 2 -1 = 2
            lock 1 2 false = 4     # 2 becomes 4
            write 1 3 0 7 = 0
            write 2 3 1 7 = 0
            lock 1 3 false = -6    # 4 would be needed, and work 2 has 2
            lockOf 1 3 -1 = 2
            write 1 3 0 8 = 7
            house 12 = 3
            lock 3 0 true = INDEX
            lock 0 6 true = INDEX
            lock 0 -1 true = INDEX
            end 0 = 1
            lock 0 0 true = STATE
            crash = 0
            lock 1 0 true = STATE
            """);
        run("promise 5: what a SOLE lock lets do", """
            begin = 0
            begin = 1
            lock 0 0 true = 4
            write 0 0 0 1 = 0
            lockOf 0 0 -1 = 4      # it stays, and no row is locked
            lockOf 0 0 0 = 0
            ofWork 0 4 = 1
            write 0 1 0 1 = 0
            write 0 1 0 2 = 1
            lockOf 0 1 -1 = 2
            lockOf 0 1 0 = 2
            write 1 1 1 1 = 0      # 2 goes with 2
            lock 1 1 false = -6
            read 1 0 3 = -6
            ofWork 1 6 = 0
            """);
        run("promise 6: ticket", """
            begin = 0
            begin = 1
            lock 0 3 true = 4
            ticket 1 3 = 1         # no lock is needed
            ticket 0 3 = 2
            ofRecord 4 0 = 6
            ofRecord 4 1 = 0
            ofRecord 4 2 = 3
            ofRecord 4 3 = -1
            ofRecord 4 4 = 1
            ofRecord 4 5 = 2
            ofRecord 4 6 = 1
            ofPage 3 7 = 2
            ofPage 3 2 = 4
            frames = 3*
            roll 0 = 0
            ofPage 3 7 = 2         # tickets stay drawn
            owes 3 0 = -1
            spoil 4 1 = 1
            ticket 1 4 = -5
            pin 0 = 1
            pin 1 = 1
            pin 2 = 1
            ticket 1 3 = -7
            ticket 1 2 = 1
            ticket 2 0 = INDEX
            ticket 0 6 = INDEX
            ticket 0 0 = STATE
            crash = 2
            ticket 1 0 = STATE
            """);
        run("promise 7: point", """
            begin = 0
            point 0 = 0
            point 0 = 1
            write 0 0 0 5 = 0
            point 0 = 2
            ofWork 0 3 = 3
            point 1 = INDEX
            end 0 = 1
            ofWork 0 3 = 0
            point 0 = STATE
            begin = 1
            point 1 = 0
            force 99 = 4
            crash = 0
            ofWork 1 3 = 0
            point 1 = STATE
            """);
        run("promise 7: many points", """
            begin = 0
            """ + manyPoints(40));
    }

    private static String manyPoints(int many) {
        StringBuilder rows = new StringBuilder();
        for (int i = 0; i < many; i++) {
            rows.append("point 0 = ").append(i).append("\nwrite 0 0 0 ").append(i + 1).append(" = ").append(i)
                .append('\n');
        }
        rows.append("back 0 17 = ").append(many - 17).append("\nread 0 0 0 = 17\nofWork 0 3 = 18\nback 0 3 = 14\n");
        return rows.append("read 0 0 0 = 3\nback 0 3 = 0\nback 0 4 = INDEX\nroll 0 = 3\n").toString();
    }

    private static void undoing() {
        run("promise 8: back", """
            begin = 0
            write 0 0 0 5 = 0
            point 0 = 0
            write 0 0 0 6 = 5
            ticket 0 0 = 1
            point 0 = 1
            write 0 1 1 7 = 0
            back 0 1 = 1
            ofRecord 6 0 = 2       # a BACK
            ofRecord 6 2 = 1
            ofRecord 6 3 = 1
            ofRecord 6 4 = 7
            ofRecord 6 5 = 0
            ofRecord 6 6 = 5
            ofRecord 6 7 = 4
            ofWork 0 2 = 2
            write 0 1 1 8 = 0
            back 0 0 = 2           # of records 7 and 3: the one between is undone already
            ofRecord 8 7 = 6
            ofRecord 9 5 = 5
            ofRecord 9 7 = 2
            ofWork 0 3 = 1
            ofWork 0 2 = 1
            lockOf 0 1 1 = 2       # locks stay
            ofPage 0 7 = 1
            back 0 0 = 0
            back 0 1 = INDEX
            back 0 -1 = INDEX
            back 1 0 = INDEX
            end 0 = 1
            back 0 0 = INDEX       # its points are gone
            """);
        run("promise 8: back is looked at ahead of all", """
            begin = 0
            point 0 = 0
            write 0 0 0 1 = 0
            write 0 1 0 2 = 0
            pin 2 = 1
            pin 3 = 1
            pin 4 = 1
            frames = 2+ 3+ 4+
            back 0 0 = -7
            spoil 0 0 = 1
            back 0 0 = -5          # ahead of -7, though page 1 is looked at first
            ofWork 0 2 = 2
            ofWork 0 3 = 1
            house 13 = 2
            unpin 2 = 0
            back 0 0 = -5
            restore 0 = 1
            back 0 0 = 2
            frames = 3+ 4+ 0*
            value 1 0 0 = 0
            value 0 0 0 = 0
            """);
        run("promise 8: back through a single FRAME", """
            begin = 0
            point 0 = 0
            pin 3 = 1
            pin 4 = 1
            write 0 0 0 1 = 0      # record 2
            write 0 1 0 2 = 0      # record 3, PAGE 0 leaves
            write 0 0 1 3 = 0      # record 4, PAGE 1 leaves
            spoil 0 2 = 1          # TORN, but in a FRAME: it is WRITTEN as it leaves
            frames = 3+ 4+ 0*
            back 0 0 = 3
            frames = 3+ 4+ 0*
            ofPage 0 6 = 0
            ofPage 0 5 = 5         # WRITTEN with the BACK of record 4
            ofPage 1 5 = 6
            house 1 = 6
            rows 0 0 = 0 0 0 0
            rows 1 0 = 0 0 0 0
            house 13 = 0
            """);
        run("promise 8: back (-5, if one of these is in no FRAME and TORN; only PAGES of the BACKS count)", """
            begin = 0
            write 0 0 0 1 = 0
            ticket 0 1 = 1
            point 0 = 0
            write 0 2 0 2 = 0
            pin 3 = 1
            pin 4 = 1
            flush 2 = 1
            pin 5 = 1              # PAGES 0, 1 and 2 left
            spoil 0 0 = 1
            spoil 1 0 = 1
            ? back 0 0 = -7        # PAGE 0 is not one of these
            unpin 5 = 0
            back 0 0 = 1
            back 0 0 = 0           # no PAGE: nothing is in the way
            pin 5 = 1
            back 0 0 = 0
            ? roll 0 = -5          # PAGE 0 is TORN
            restore 0 = 1
            ? roll 0 = -7
            unpin 5 = 0
            roll 0 = 1             # PAGE 1 has only a TICKET
            ofPage 1 6 = 1
            house 13 = 3
            """);
        run("promise 8: back (one PAGE is TORN, another has no FRAME)", """
            begin = 0
            point 0 = 0
            write 0 0 0 1 = 0
            write 0 1 0 2 = 0
            write 0 2 0 3 = 0
            pin 3 = 1
            pin 4 = 1
            pin 5 = 1
            spoil 1 3 = 1
            ? back 0 0 = -5
            ? roll 0 = -5
            restore 1 = 1
            ? back 0 0 = -7
            ? roll 0 = -7
            unpin 4 = 0
            back 0 0 = 3
            house 13 = 4
            frames = 3+ 5+ 0*
            """);
        run("promise 8: back (POINTS behind that one are gone)", """
            begin = 0
            point 0 = 0
            point 0 = 1
            point 0 = 2
            ! back 0 3 = INDEX
            back 0 2 = 0           # the last one: none is behind it
            ofWork 0 3 = 3
            back 0 0 = 0
            ofWork 0 3 = 1
            ! back 0 1 = INDEX
            point 0 = 1
            write 0 0 0 5 = 0
            lockOf 0 0 0 = 2
            back 0 1 = 1
            lockOf 0 0 0 = 2       # LOCKS stay
            lockOf 0 0 -1 = 2
            ofWork 0 4 = 2
            """);
        run("promise 9: roll", """
            begin = 0
            write 0 0 0 1 = 0
            write 0 1 0 2 = 0
            point 0 = 0
            roll 0 = 2
            ofWork 0 0 = 3
            ofWork 0 1 = 6
            ofWork 0 2 = 0
            ofWork 0 3 = 0
            ofWork 0 4 = 0
            ofRecord 4 2 = 1       # the last CHANGE first
            ofRecord 5 2 = 0
            ofRecord 6 0 = 4
            ofRecord 6 6 = 5
            house 1 = 0
            house 5 = 0
            roll 0 = STATE
            roll 1 = INDEX
            begin = 1
            write 1 3 3 3 = 0
            pin 0 = 1
            pin 1 = 1
            pin 2 = 1
            roll 1 = -7
            ofWork 1 0 = 0
            spoil 3 0 = 1
            roll 1 = -5
            restore 3 = 1
            unpin 1 = 0
            roll 1 = 1
            value 3 3 0 = 0
            crash = 2
            roll 1 = STATE
            """);
        run("promise 10: end", """
            begin = 0
            begin = 1
            begin = 2
            write 0 0 0 1 = 0
            end 0 = 1
            ofWork 0 0 = 2
            ofWork 0 4 = 0
            house 1 = 5
            ofRecord 5 0 = 3
            ofRecord 5 6 = 4
            group 2 = 1
            end 1 = 0
            ofWork 1 0 = 1
            house 6 = 1
            end 1 = STATE
            end 2 = 1              # two are ending
            ofWork 1 0 = 2
            house 6 = 0
            begin = 3
            end 3 = 0
            force 1 = 8
            ofWork 3 0 = 1
            force 1 = 9
            ofWork 3 0 = 2         # its END is safe by that
            end 4 = INDEX
            crash = 0
            end 3 = STATE
            """);
        run("promise 11: group", """
            group 4 = 1
            begin = 0
            begin = 1
            begin = 2
            end 0 = 0
            end 1 = 0
            end 2 = 0
            house 1 = 0
            group 0 = ARGUMENT
            group 5 = ARGUMENT
            house 7 = 4
            group 3 = 4            # so many are ending already
            house 1 = 6
            house 6 = 0
            house 7 = 3
            crash = 0
            house 7 = 3
            group 5 = ARGUMENT
            group 1 = STATE
            """);
        run("promise 11: group (more are ENDING than that; fewer; none)", """
            group 4 = 1
            group 1 = 4            # none is ENDING
            group 4 = 1
            begin = 0
            begin = 1
            begin = 2
            end 0 = 0
            end 1 = 0
            group 3 = 4            # one too few
            house 1 = 0
            house 6 = 2
            group 4 = 3
            end 2 = 0
            mark = 7
            group 1 = 4
            house 1 = 7            # the whole LOG
            house 6 = 0
            ofWork 0 0 = 2
            ofWork 2 0 = 2
            """);
        run("promise 12: breakRing", """
            breakRing = -1
            begin = 0
            begin = 1
            begin = 2
            write 0 0 0 1 = 0
            write 0 0 1 1 = 0
            write 1 1 0 1 = 0
            write 1 1 1 1 = 0
            write 2 2 0 1 = 0
            write 0 1 0 9 = -6
            write 2 0 0 9 = -6     # waits, but no one waits for it
            write 1 0 0 9 = -6
            ring = 0 1
            breakRing = 1          # both have 2 CHANGES: the greatest number
            ofWork 1 0 = 3
            ofWork 0 0 = 0
            write 0 1 0 9 = 0
            write 2 0 0 9 = -6
            write 0 2 0 9 = -6
            ring = 0 2
            breakRing = 2          # it has 1 CHANGE, work 0 has 3
            breakRing = -1
            house 13 = 0
            """);
        run("promise 12: breakRing takes that with the fewest CHANGES", """
            begin = 0
            begin = 1
            write 0 0 0 1 = 0
            write 1 1 0 1 = 0
            write 1 1 1 1 = 0
            write 0 1 0 9 = -6
            write 1 0 0 9 = -6
            breakRing = 0
            ofWork 1 0 = 0
            ofWork 1 5 = 1         # it still waits, for no one
            ofWork 1 6 = -1
            """);
        run("promise 12: breakRing (CHANGES that are UNDONE, and TICKETS, do not count)", """
            begin = 0
            begin = 1
            write 0 0 0 1 = 0
            point 0 = 0
            write 0 0 0 2 = 1
            write 0 0 0 3 = 2
            back 0 0 = 2
            write 1 1 0 1 = 0
            write 1 1 0 2 = 1
            ticket 0 2 = 1
            ticket 0 2 = 2
            write 0 1 0 9 = -6
            write 1 0 0 9 = -6
            ofWork 0 2 = 1
            ofWork 1 2 = 2
            breakRing = 0
            house 0 = 13
            ofRecord 12 7 = 1      # the BACK of record 3
            ofRecord 13 0 = 4
            value 0 0 0 = 0
            """);
        run("promise 12: breakRing (of several that with the greatest number)", """
            begin = 0
            begin = 1
            begin = 2
            begin = 3
            read 0 0 0 = 0
            read 1 1 0 = 0
            read 2 2 0 = 0
            read 3 3 0 = 0
            write 0 1 0 1 = -6
            write 1 2 0 1 = -6
            write 2 0 0 1 = -6
            write 3 0 0 1 = -6     # not of the RING
            ring = 0 1 2
            breakRing = 2
            ofWork 2 0 = 3
            ofWork 3 0 = 0
            breakRing = -1
            """);
        run("promise 12: breakRing through a single FRAME", """
            begin = 0
            begin = 1
            pin 4 = 1
            pin 5 = 1
            write 0 0 0 1 = 0
            write 0 0 1 1 = 0
            write 0 0 2 1 = 0
            write 1 1 0 1 = 0
            write 1 2 0 2 = 0
            lock 0 1 true = -6
            lock 1 0 true = -6
            breakRing = 1
            frames = 4+ 5+ 1*
            house 13 = 0
            """);
        run("promise 12: breakRing that lacks a page", """
            begin = 0
            begin = 1
            write 0 0 0 1 = 0
            write 1 1 0 1 = 0
            write 0 1 0 1 = -6
            write 1 0 0 1 = -6
            pin 2 = 1
            pin 3 = 1
            pin 4 = 1
            breakRing = -7
            spoil 1 0 = 1
            breakRing = -5
            ring = 0 1
            house 13 = 2
            restore 1 = 1
            unpin 4 = 0
            breakRing = 1
            ring = -
            crash = 2
            breakRing = STATE
            """);
    }

    private static void framesAndLog() {
        run("promise 13: pin", """
            pin 0 = 1
            pin 0 = 2
            pin 1 = 1
            pin 2 = 1
            pin 3 = -7
            spoil 3 0 = 1
            pin 3 = -5
            spoil 0 0 = 1
            pin 0 = 3              # it is in a frame
            frames = 1+ 2+ 0+
            unpin 1 = 0
            pin 4 = 1
            frames = 2+ 0+ 4+
            house 13 = 2
            pin 6 = INDEX
            pin -1 = INDEX
            crash = 0
            pin 6 = INDEX
            pin 5 = STATE
            """);
        run("promise 14: unpin", """
            unpin 0 = STATE
            pin 0 = 1
            pin 1 = 1
            pin 0 = 2
            unpin 0 = 1
            unpin 0 = 0
            unpin 0 = STATE
            frames = 1+ 0
            unpin 1 = 0
            frames = 1 0           # that is no use
            unpin 6 = INDEX
            pin 1 = 1
            crash = 0
            unpin 1 = STATE
            mend 0 true = 0
            unpin 1 = STATE        # pins are lost
            ofPage 1 4 = 0
            """);
        run("promise 15: flush", """
            flush 0 = 0
            begin = 0
            write 0 0 1 5 = 0
            write 0 1 1 6 = 0
            flush 0 = 1
            house 1 = 2            # safe up to its NUMBER
            value 0 1 1 = 5
            ofPage 0 5 = 2
            ofPage 0 1 = 0
            ofPage 0 3 = 0
            frames = 0 1*
            flush 0 = 0
            spoil 0 0 = 1
            flush 0 = 0            # it is written all the same
            ofPage 0 6 = 0
            value 0 0 1 = 0
            flush 1 = 1
            house 1 = 3
            write 0 0 1 7 = 5
            ofPage 0 3 = 4
            spoil 2 0 = 1
            flush 2 = 0            # it is in no frame
            ofPage 2 6 = 1
            flush 6 = INDEX
            crash = 1
            flush 6 = INDEX
            flush 0 = STATE
            """);
        run("promise 16: force", """
            force 1 = 0
            begin = 0
            begin = 1
            begin = 2
            force 1 = 1
            force 99 = 3
            force 99 = 3
            force 0 = ARGUMENT
            force 100 = ARGUMENT
            house 1 = 3
            crash = 0
            force 0 = ARGUMENT
            force 1 = STATE
            """);
        run("promise 17: mark", """
            mark = 1
            begin = 0
            begin = 1
            begin = 2
            end 1 = 1
            write 0 0 0 1 = 0
            write 0 1 0 1 = 0
            write 0 2 0 1 = 0
            flush 1 = 1
            mark = 9
            ofRecord 9 0 = 5
            ofRecord 9 1 = -1
            ofRecord 9 6 = 0
            ofRecord 9 8 = 2
            ofRecord 9 9 = 2
            ofRecord 1 8 = 0
            ofRecord 1 9 = 0
            house 3 = 2
            ofWork 0 1 = 8
            write 0 0 0 2 = 1
            ofRecord 10 6 = 8      # a MARK is no record of a work
            ofRecord 10 8 = -1
            ofRecord 10 9 = -1
            crash = 3
            house 3 = 1
            mark = STATE
            """);
        run("promise 18: cut", """
            begin = 0
            write 0 0 0 1 = 0
            end 0 = 1
            cut = 0                # FROM of page 0, its copy, and the mirror
            flush 0 = 1
            cut = 0
            follow 99 = 3
            cut = 1                # up to the first record above the NUMBER of the copy
            house 2 = 2
            copy = 0
            cut = 2
            house 2 = 4            # none is kept
            house 0 = 3
            ofRecord 3 0 = INDEX
            owes 0 0 = -1
            ofWork 0 1 = 0
            ofWork 0 2 = 0
            begin = 1
            ofRecord 4 1 = 1
            begin = 2
            end 2 = 1
            follow 99 = 6
            cut = 0                # BEGIN of work 1
            roll 1 = 0
            cut = 0                # its GONE is not safe
            force 1 = 7
            follow 1 = 7
            cut = 4
            isSound = true
            write 1 0 0 1 = STATE
            begin = 3
            write 3 0 0 9 = 1
            force 99 = 9
            roll 3 = 1
            crash = 2
            cut = STATE
            """);
        run("promise 18: cut up to a MARK, and up to an END", """
            begin = 0
            end 0 = 1
            mark = 3
            force 1 = 3
            follow 1 = 1
            cut = 1
            wouldMend 0 = 0
            follow 1 = 2
            cut = 1
            house 2 = 3
            house 3 = 1            # the first record that is kept
            afterMend 1 0 0 = 0
            follow 1 = 3
            cut = 1
            house 3 = 0
            afterMend 1 0 0 = INDEX
            """);
        run("promise 18: cut leaves an END without its BEGIN", """
            begin = 0
            end 0 = 1
            follow 1 = 1
            cut = 1
            wouldMend 0 = 1
            wouldMend 3 = 0
            isSound = true
            crash = 0
            mend 0 false = 0
            ofWork 0 0 = 2
            """);
        run("promise 18: cut with a dirty page", """
            begin = 0
            write 0 0 0 1 = 0
            write 0 1 0 1 = 0
            write 0 0 0 2 = 1
            end 0 = 1
            follow 99 = 5
            flush 0 = 1
            copy = 0
            cut = 2                # FROM of page 1 is 3
            house 2 = 3
            group 2 = 1
            begin = 1
            end 1 = 0
            flush 1 = 1
            copy = 0
            cut = 3                # to 6: SAFE + 1, and the BEGIN of work 1, whose END is not safe
            house 2 = 6
            force 1 = 6
            follow 9 = 6
            cut = 0                # its BEGIN is safe, but not its END
            force 1 = 7
            cut = 1                # the mirror has followed to 6
            house 2 = 7
            """);
    }

    private static void crashes() {
        run("promise 19: crash", """
            group 4 = 1
            begin = 0
            begin = 1
            begin = 2
            write 0 0 0 1 = 0
            write 1 1 0 2 = 0
            end 0 = 0
            roll 2 = 0
            pin 4 = 1
            force 6 = 6            # END of 0 is safe, GONE of 2 is not
            begin = 3
            point 1 = 0
            crash = 2
            house 0 = 6
            house 8 = 1
            house 11 = 1
            ofWork 0 0 = 2
            ofWork 1 0 = 4
            ofWork 2 0 = 4
            ofWork 2 1 = 3
            ofWork 3 0 = 3         # its BEGIN was lost
            ofWork 3 1 = 0
            ofWork 1 3 = 0
            ofWork 1 4 = 0
            house 5 = 0
            frames = -
            value 0 0 0 = 0
            ofPage 4 4 = 0
            crash = 0
            house 11 = 2
            ofWork 1 0 = 4
            mend 9 false = 3       # records 4 and 5 again, and a BACK
            ofWork 1 0 = 3
            ofWork 2 0 = 3
            house 0 = 9
            ofRecord 7 5 = 0       # the work with the greatest u first
            ofRecord 8 0 = 4
            ofRecord 8 1 = 2
            ofRecord 9 1 = 1
            value 0 0 0 = 1
            isSound = true
            begin = 4
            """);
        run("promise 19: crash at a BEGIN, and records put anew", """
            begin = 0
            begin = 1
            mark = 3
            force 1 = 1
            write 0 0 0 5 = 0
            crash = 3
            ofPage 0 1 = 0         # frames are lost
            ofPage 0 3 = 0
            ofWork 0 0 = 4         # its BEGIN is the last one that is safe
            ofWork 1 0 = 3
            mend 0 false = 0
            ofRecord 2 0 = 4
            begin = 2
            mark = 4
            mark = 5
            force 2 = 4
            crash = 1
            mend 0 false = 0
            begin = 3
            write 3 0 0 6 = 0
            house 3 = 1            # the lost MARKS are no more
            ofWork 3 2 = 1         # nor what they were
            ofRecord 7 8 = -1
            """);
        run("promise 20: mend with too few STEPS for what is DONE again", """
            begin = 0
            write 0 0 0 1 = 0
            write 0 0 1 1 = 0
            end 0 = 1
            crash = 0
            mend 1 false = 1
            house 8 = 1
            house 10 = 1
            mend 0 true = 0
            house 8 = 1
            house 11 = 3
            mend 2 false = 2       # as many as are let
            house 8 = 0
            house 10 = 3
            """);
        run("promise 20: mend with too few STEPS for the BACKS", """
            begin = 0
            write 0 0 0 1 = 0
            write 0 0 1 1 = 0
            force 99 = 3
            crash = 0
            mend 2 false = 2
            house 8 = 1            # the first BACK would be one more
            mend 3 false = 3
            house 8 = 1
            mend 4 false = 4
            house 8 = 0
            house 11 = 3
            """);
        run("promise 20: mend ahead of a STEP", """
            begin = 0
            write 0 0 0 1 = 0
            pin 0 = 1
            write 0 1 0 1 = 0
            write 0 2 0 1 = 0
            write 0 3 0 1 = 0
            write 0 4 0 1 = 0
            force 99 = 6           # pages 1 and 2 had to leave
            crash = 0
            mend 0 false = 0
            ofPage 0 5 = 0         # the PAGE is got, and there is no STEP
            mend 1 false = 1
            ofPage 0 5 = 2         # page 3 is got already, and page 0 left for it
            """);
        run("promise 20: mend", """
            mend 0 true = STATE
            mend -1 true = ARGUMENT
            mend 1000 true = ARGUMENT
            begin = 0
            begin = 1
            write 0 0 0 1 = 0
            write 1 1 0 2 = 0
            write 0 0 1 3 = 0
            mark = 6
            write 1 1 1 4 = 0
            ticket 0 2 = 1
            force 99 = 8
            spoil 3 0 = 1
            crash = 0
            mend 1000 true = ARGUMENT
            wouldMend 0 = 2
            wouldMend 1 = 5
            wouldMend 2 = 4
            wouldMend 3 = 2
            wouldMend 4 = 3
            mend 4 false = 4
            house 8 = 1
            house 11 = 2
            ofPage 3 6 = 0         # restored
            ofPage 0 5 = 0
            mend 6 true = 6        # 5 again, the BACK of record 7 is safe, too
            house 0 = 9
            house 1 = 9
            ofRecord 9 5 = 0
            ofRecord 9 7 = 4
            wouldMend 1 = 6
            wouldMend 2 = 3
            ofWork 1 0 = 4
            mend 999 false = 9
            house 8 = 0
            house 10 = 19
            house 0 = 14
            house 1 = 14
            frames = 2* 1* 0*
            ofRecord 10 1 = 0
            ofRecord 11 1 = 1
            ofRecord 12 0 = 2
            ofRecord 12 1 = 0
            ofRecord 13 0 = 4
            ofRecord 13 1 = 1
            ofRecord 14 0 = 4
            value 0 0 0 = 0
            value 1 1 0 = 0
            ofPage 2 7 = 1
            mend 0 false = STATE
            isSound = true
            """);
        run("promise 20: what is got as mending crashes", """
            begin = 0
            write 0 0 0 1 = 0
            write 0 1 0 1 = 0
            write 0 2 0 1 = 0
            write 0 3 0 1 = 0
            value 0 0 1 = 1        # page 0 had to leave
            force 99 = 5
            crash = 0
            mend 2 false = 2       # pages 0 to 2 and 3 are got; then there is no step for record 5
            ofPage 1 5 = 0         # page 0 leaves for it, and is clean
            ofPage 0 5 = 2
            end 0 = STATE
            mend 4 false = 4       # 3 again, a BACK in page 3, none for that in page 2
            ofPage 0 5 = 2
            ofPage 3 5 = 0
            mend 4 false = 4
            mend 6 false = 6       # the BACK of page 1 comes to page 1, which is in a frame
            ofPage 3 5 = 0
            mend 7 false = 7
            house 8 = 0
            frames = 2* 1* 0*
            ofPage 3 5 = 6         # its BACK was written as page 0 came
            house 0 = 10
            """);
        run("promise 21: spoil", """
            spoil 0 0 = 1
            value 0 0 1 = 1
            value 0 0 0 = 1        # as it is now: it is in no frame
            begin = 0
            write 0 1 0 998 = 0
            flush 1 = 1
            spoil 1 0 = 1
            value 1 0 1 = 999
            value 1 0 0 = 998      # as it is now: it is in a frame
            spoil 1 0 = 1
            value 1 0 1 = 0        # 0 behind 999
            ofPage 1 6 = 1
            332 times spoil 1 2 = 1
            ofPage 1 6 = 1
            spoil 1 0 = 1
            spoil 1 0 = 0          # 998 less, 332 * 3 more in ROW 2, and 2 more: the SUM is right again
            ofPage 1 6 = 0
            spoil 6 0 = INDEX
            spoil -1 0 = INDEX
            spoil 0 4 = INDEX
            spoil 0 -1 = INDEX
            crash = 0
            spoil 5 3 = 1
            """);
        run("promise 22: copy", """
            begin = 0
            write 0 0 0 5 = 0
            ticket 0 0 = 1
            copy = 0
            value 0 0 2 = 0        # the SAFE copy is copied
            flush 0 = 1
            spoil 1 0 = 1
            spoil 2 0 = 1
            copy = 2
            value 0 0 2 = 5
            ofPage 0 8 = 3
            value 1 0 2 = 0        # torn ones are not
            restore 1 = 0
            crash = 0
            copy = 1
            """);
        run("promise 23: restore", """
            begin = 0
            write 0 0 0 5 = 0
            ticket 0 0 = 1
            restore 0 = -8
            house 13 = 1
            write 0 0 1 6 = 0
            force 3 = 3
            crash = 1
            restore 0 = 2          # the KEPT and SAFE ones
            ofPage 0 5 = 3
            ofPage 0 7 = 1
            value 0 0 1 = 5
            value 0 1 1 = 0
            copy = 0
            spoil 0 3 = 1
            restore 0 = 0          # its copy has all
            ofPage 0 6 = 0
            value 0 3 1 = 0
            restore 6 = INDEX
            restore -1 = INDEX
            """);
        run("promise 23: restore from a copy", """
            begin = 0
            write 0 0 0 5 = 0
            flush 0 = 1
            copy = 0
            write 0 0 1 6 = 0      # the very next record
            write 0 1 1 6 = 0
            force 99 = 4
            crash = 0
            spoil 0 2 = 1
            restore 0 = 1
            value 0 0 1 = 5
            value 0 1 1 = 6
            value 0 2 1 = 0
            """);
        run("promise 24: follow", """
            begin = 0
            write 0 0 0 5 = 0
            ticket 0 0 = 1
            write 0 0 0 6 = 5
            follow 9 = 0           # nothing is safe
            force 3 = 3
            follow 1 = 1
            follow 1 = 2
            value 0 0 3 = 5
            ofPage 0 9 = 2
            follow 99 = 3
            value 0 0 3 = 5
            ofPage 0 9 = 3
            house 9 = 3
            follow 0 = ARGUMENT
            follow 100 = ARGUMENT
            crash = 1
            follow 9 = 3
            """);
        run("promise 25: takeOver", """
            begin = 0
            write 0 0 0 5 = 0
            ticket 0 1 = 1
            flush 1 = 1
            spoil 2 0 = 1
            write 0 3 0 1 = 0
            takeOver = 2           # page 0 was not written, page 2 is torn
            house 8 = 1
            house 11 = 1
            house 9 = 3
            house 0 = 3
            ofPage 2 6 = 0
            value 2 0 1 = 0
            value 0 0 1 = 5
            ofPage 1 5 = 3
            ofPage 1 7 = 1
            takeOver = 0
            house 11 = 2
            mend 9 false = 1
            house 9 = 3
            """);
        run("promise 26: knock", """
            knock = 1
            knock = 2
            crash = 0
            knock = 3
            house 14 = 3
            """);
    }

    private static void questions() {
        run("promise 27: ofPage", """
            begin = 0
            write 0 2 1 7 = 0
            ofPage 2 0 = 1
            ofPage 2 1 = 1
            ofPage 2 2 = 2
            ofPage 2 3 = 2
            ofPage 2 4 = 0
            ofPage 2 5 = 0
            ofPage 2 6 = 0
            ofPage 2 7 = 0
            ticket 0 2 = 1
            pin 2 = 1
            ofPage 2 2 = 3
            ofPage 2 3 = 2         # the first one since it came
            ofPage 2 4 = 1
            ofPage 2 7 = 1
            ofPage 2 8 = 0
            ofPage 2 9 = 0
            flush 2 = 1
            copy = 0
            follow 2 = 2
            ofPage 2 1 = 0
            ofPage 2 3 = 0
            ofPage 2 5 = 3
            ofPage 2 8 = 3
            ofPage 2 9 = 2
            ofPage 1 0 = 0
            spoil 2 0 = 1
            ofPage 2 6 = 1
            ofPage 6 10 = INDEX
            ofPage -1 0 = INDEX
            ofPage 0 10 = ARGUMENT
            ofPage 0 -1 = ARGUMENT
            """);
        run("promise 28: value", """
            begin = 0
            write 0 2 1 7 = 0
            flush 2 = 1
            copy = 0
            write 0 2 1 8 = 7
            flush 2 = 1
            write 0 2 1 9 = 8
            value 2 1 0 = 9
            value 2 1 1 = 8
            value 2 1 2 = 7
            value 2 1 3 = 0
            follow 2 = 2
            value 2 1 3 = 7
            crash = 1
            value 2 1 0 = 8
            value 6 0 4 = INDEX
            value 0 4 0 = INDEX
            value 0 0 4 = ARGUMENT
            value 0 0 -1 = ARGUMENT
            """);
        run("promise 29: ofWork", """
            begin = 0
            begin = 1
            begin = 2
            ofWork 0 0 = 0
            ofWork 0 1 = 1
            ofWork 0 2 = 0
            ofWork 0 5 = 0
            ofWork 0 6 = -1
            write 0 0 0 1 = 0
            write 0 0 1 1 = 0
            point 0 = 0
            write 0 0 1 2 = 1
            ofWork 0 2 = 3
            ofWork 0 3 = 1
            ofWork 0 4 = 3         # the page and two rows
            back 0 0 = 1
            ofWork 0 1 = 7
            ofWork 0 2 = 2
            read 1 1 0 = 0
            read 0 1 0 = 0
            write 2 1 0 1 = -6
            ofWork 2 5 = 1
            ofWork 2 6 = 0
            write 2 0 0 1 = -6     # now it waits for work 0 alone
            end 0 = 1
            ofWork 2 5 = 1         # it waits till a call tells something else
            ofWork 2 6 = -1
            write 2 1 0 1 = -6
            ofWork 2 6 = 1
            spoil 5 0 = 1
            read 2 5 0 = -5        # that is something else
            ofWork 2 5 = 0
            write 2 1 0 1 = -6
            roll 2 = 0
            ofWork 2 5 = 0         # open no more
            ofWork 3 7 = INDEX
            ofWork -1 0 = INDEX
            ofWork 0 7 = ARGUMENT
            ofWork 0 -1 = ARGUMENT
            """);
        run("promise 29: the last KEPT record that it put (0: none), how many of its KEPT CHANGES", """
            begin = 0
            write 0 0 0 1 = 0      # record 2
            write 0 1 0 1 = 0      # record 3
            write 0 0 1 1 = 0      # record 4
            end 0 = 1              # record 5
            flush 0 = 1
            flush 1 = 1
            copy = 0
            follow 2 = 2
            ofWork 0 2 = 3
            cut = 2
            ofWork 0 1 = 5
            ofWork 0 2 = 2
            follow 1 = 3
            cut = 1
            ofWork 0 2 = 1         # record 4
            follow 1 = 4
            cut = 1
            ofWork 0 2 = 0
            ofWork 0 1 = 5
            follow 1 = 5
            cut = 1
            ofWork 0 1 = 0
            """);
        run("promise 29: how many LOCKS it has on ROWS and PAGES", """
            begin = 0
            ofWork 0 4 = 0
            lock 0 0 false = 3
            ofWork 0 4 = 1
            read 0 0 3 = 0
            ofWork 0 4 = 1
            read 0 5 0 = 0
            ofWork 0 4 = 3
            read 0 5 3 = 0
            ofWork 0 4 = 4
            write 0 5 3 1 = 0
            ofWork 0 4 = 4
            write 0 0 0 1 = 0
            ofWork 0 4 = 4
            """);
        run("promise 29: ofWork behind a crash", """
            begin = 0
            point 0 = 0
            write 0 0 0 1 = 0
            force 2 = 2
            back 0 0 = 1
            ofWork 0 2 = 0
            crash = 1
            ofWork 0 2 = 1         # its BACK was lost
            ofWork 0 1 = 2
            """);
        run("promise 30: ofRecord", """
            ofRecord 0 0 = INDEX
            ofRecord 1 0 = INDEX
            begin = 0
            ofRecord 1 10 = ARGUMENT
            ofRecord 1 -1 = ARGUMENT
            ofRecord 2 10 = INDEX
            ofRecord -5 0 = INDEX
            ofRecord 1 3 = -1
            ofRecord 1 4 = -1
            ofRecord 1 5 = -1
            ofRecord 1 7 = -1
            ofRecord 1 8 = -1
            ofRecord 1 9 = -1
            end 0 = 1
            follow 9 = 2
            cut = 2
            ofRecord 2 0 = INDEX   # not kept
            ofRecord 3 0 = INDEX
            """);
        run("promise 31: lockOf", """
            begin = 0
            begin = 1
            read 0 0 0 = 0
            lockOf 0 0 0 = 1
            lockOf 0 0 -1 = 1
            lockOf 0 0 1 = 0
            lockOf 1 0 0 = 0
            write 0 0 0 1 = 0
            lockOf 0 0 0 = 2       # SHARED becomes SOLE
            lockOf 0 0 -1 = 2
            lock 1 1 false = 3
            write 1 1 0 1 = 0
            lockOf 1 1 -1 = 4      # 3 becomes 4
            lockOf 1 1 0 = 0       # with 4 no row is locked
            lockOf 2 0 0 = INDEX
            lockOf 0 6 0 = INDEX
            lockOf 0 6 -1 = INDEX
            lockOf 0 0 4 = INDEX
            lockOf 0 0 -2 = INDEX
            """);
        run("promise 32: ring", """
            begin = 0
            begin = 1
            begin = 2
            begin = 3
            write 2 2 0 1 = 0
            write 3 3 0 1 = 0
            write 2 3 0 1 = -6
            write 3 2 0 1 = -6
            ring = 2 3
            write 0 0 0 1 = 0
            write 1 1 0 1 = 0
            write 0 1 0 1 = -6
            write 1 0 0 1 = -6
            ring = 0 1             # that with the smallest work
            end 1 = 1
            ring = 2 3
            end 3 = 1
            ring = -
            """);
        run("promise 32: a ring of rings", """
            begin = 0
            begin = 1
            begin = 2
            begin = 3
            read 0 0 0 = 0
            read 1 0 0 = 0
            read 2 0 0 = 0
            read 3 1 0 = 0
            write 0 0 0 1 = -6     # waits for 1 and 2
            ofWork 0 6 = 1
            ring = -
            write 2 0 0 1 = -6     # waits for 0 and 1
            ring = 0 2
            write 1 0 0 1 = -6
            ring = 0 1 2
            lock 3 0 true = -6     # waits for all, but no one waits for it
            ring = 0 1 2
            breakRing = 2
            ring = 0 1
            """);
        run("promise 33: frames", """
            frames = -
            pin 3 = 1
            frames = 3+
            begin = 0
            write 0 1 0 1 = 0
            write 0 3 0 1 = 0
            frames = 1* 3*+
            read 0 5 0 = 0
            frames = 1* 3*+ 5
            read 0 1 1 = 0
            frames = 3*+ 5 1*
            read 0 0 0 = 0
            frames = 3*+ 1* 0      # page 5 left, page 3 has pins
            read 0 2 0 = 0
            frames = 3*+ 0 2
            ofPage 1 5 = 2         # it was dirty, and is written
            crash = 1
            frames = -
            """);
        run("promise 33: a torn page is written as it leaves", """
            pin 0 = 1
            unpin 0 = 0
            spoil 0 2 = 1
            pin 1 = 1
            pin 2 = 1
            ofPage 0 6 = 1
            pin 3 = 1
            ofPage 0 0 = 0
            ofPage 0 6 = 0
            value 0 2 1 = 0
            """);
        run("promise 34: house", """
            group 2 = 1
            begin = 0
            begin = 1
            mark = 3
            end 0 = 0
            force 2 = 2
            house 0 = 4
            house 1 = 2
            house 2 = 1
            house 3 = 1
            house 4 = 2
            house 5 = 1
            house 6 = 1
            house 7 = 2
            house 8 = 0
            follow 1 = 1
            house 9 = 1
            cut = 0
            crash = 2
            house 3 = 0
            house 6 = 0
            house 8 = 1
            mend 0 false = 0
            house 10 = 0
            house 11 = 1
            house 15 = ARGUMENT
            house -1 = ARGUMENT
            """);
        run("promise 35: owes", """
            begin = 0
            write 0 0 1 5 = 0
            owes 0 1 = 2
            owes 0 0 = -1
            owes 1 1 = -1
            write 0 0 1 6 = 5
            ticket 0 0 = 1
            owes 0 1 = 3
            point 0 = 0
            write 0 0 1 7 = 6
            back 0 0 = 1
            owes 0 1 = 6           # a BACK
            force 3 = 3
            crash = 3
            owes 0 1 = -1          # the page as it is now has none
            mend 9 false = 4       # two again, two BACKS
            flush 0 = 1
            copy = 0
            follow 4 = 4
            cut = 4
            owes 0 1 = 5           # the first one that is kept
            follow 1 = 5
            cut = 1
            owes 0 1 = -1
            owes 6 0 = INDEX
            owes 0 4 = INDEX
            owes 0 -1 = INDEX
            """);
    }

    private static void owing() {
        run("promise 35: not above the NUMBER of the PAGE as it is now", """
            begin = 0
            write 0 0 0 1 = 0      # record 2
            flush 0 = 1
            write 0 0 0 2 = 1      # record 3
            write 0 0 1 2 = 0      # record 4
            owes 0 0 = 3
            owes 0 1 = 4
            force 9 = 4
            crash = 0              # the PAGE is now as at record 2
            owes 0 0 = 2
            owes 0 1 = -1
            mend 1 false = 1
            restore 0 = 3          # all three
            owes 0 0 = 3
            owes 0 1 = 4
            mend 9 false = 3
            owes 0 0 = 7           # BACKS
            owes 0 1 = 5
            owes 0 2 = -1
            owes 1 0 = -1
            """);
        run("promise 35: the last KEPT record", """
            begin = 0
            write 0 0 0 1 = 0      # record 2
            write 0 0 1 2 = 0      # record 3
            end 0 = 1
            flush 0 = 1
            copy = 0
            follow 1 = 1
            cut = 1
            owes 0 0 = 2           # the first one that is KEPT
            follow 1 = 2
            cut = 1
            owes 0 0 = -1
            owes 0 1 = 3
            follow 1 = 3
            cut = 1
            owes 0 1 = -1
            ofPage 0 2 = 3
            """);
    }

    private static void whatWouldBe() {
        run("promise 36: if the house crashed now (it is not: FRAMES and what is not SAFE do not count)", """
            begin = 0
            write 0 0 0 1 = 0      # record 2
            force 9 = 2
            write 0 0 0 2 = 1      # record 3, not SAFE
            point 0 = 0
            ! wouldMend 0 = 2
            ! wouldMend 1 = 1
            ! wouldMend 2 = 1
            ! wouldMend 3 = 1
            ! wouldMend 4 = 2
            mark = 4               # not SAFE
            ! wouldMend 0 = 2
            ! afterMend 0 0 0 = 0
            ! afterMend 1 0 0 = INDEX
            ! isSound = true
            value 0 0 0 = 2
            crash = 2
            wouldMends = 2 1 1 1 2
            mend 9 false = 2
            wouldMends = 4 2 0 0 2
            """);
        run("promise 36: how many records are looked at (MARKS, too, and those behind the MARK or all KEPT ones)", """
            mark = 1
            mark = 2
            begin = 0
            mark = 4
            end 0 = 1
            wouldMend 0 = 1
            follow 99 = 5
            cut = 5
            wouldMend 0 = 0
            begin = 1
            begin = 2
            force 1 = 6
            wouldMend 0 = 1
            force 1 = 7
            wouldMend 0 = 2
            mark = 8
            wouldMend 0 = 2
            force 1 = 8
            wouldMend 0 = 0
            wouldMend 3 = 2
            """);
        run("promise 37: the nth MARK of those that are KEPT and SAFE", """
            mark = 1
            mark = 2
            begin = 0
            write 0 0 0 5 = 0
            mark = 5
            mark = 6
            ! afterMend 1 0 0 = INDEX
            force 1 = 1
            afterMend 1 0 0 = 0
            ! afterMend 2 0 0 = INDEX
            force 3 = 4
            afterMends 2 0 = 0 0 0 0
            ! afterMend 3 0 0 = INDEX
            end 0 = 1
            afterMends 0 0 = 5 0 0 0
            afterMends 4 0 = 5 0 0 0
            ! afterMend 5 0 0 = INDEX
            flush 0 = 1
            copy = 0
            follow 4 = 4
            cut = 4
            afterMends 2 0 = 5 0 0 0
            ! afterMend 3 0 0 = INDEX
            house 3 = 2
            """);
        run("promise 37: as if no MARK were there (with 4 OPEN WORKS)", """
            mark = 1
            begin = 0
            begin = 1
            begin = 2
            begin = 3
            write 3 5 0 9 = 0
            flush 5 = 1
            mark = 7
            force 9 = 7
            afterMends 0 5 = 0 0 0 0
            afterMends 1 5 = 0 0 0 0
            afterMends 2 5 = 0 0 0 0
            wouldMends = 0 0 1 4 0
            isSound = true
            """);
        run("promise 37: the VALUE .. if the house crashed now (a TORN PAGE that is in a FRAME)", """
            begin = 0
            write 0 0 0 5 = 0
            end 0 = 1
            begin = 1
            write 1 0 0 6 = 5      # not SAFE
            spoil 0 1 = 1
            afterMends 0 0 = 5 0 0 0
            wouldMends = 3 0 0 0 2
            isSound = true
            flush 0 = 1
            afterMends 0 0 = 5 0 0 0
            spoil 0 1 = 1
            wouldMends = 5 0 1 1 2
            crash = 0
            mend 1 false = 1
            rows 0 0 = 5 0 0 0
            """);
        // The SUM is right again, and what is DONE again leaves one ROW alone wrong.
        run("promise 38: each VALUE (ROW 0 of PAGE 0, less than is due)", """
            begin = 0
            write 0 0 0 999 = 0
            end 0 = 1
            flush 0 = 1
            spoil 0 0 = 1
            332 times spoil 0 2 = 1
            spoil 0 2 = 0
            isSound = false
            begin = 1
            write 1 0 2 5 = 0
            end 1 = 1
            afterMends 0 0 = 0 0 5 0
            isSound = false
            begin = 2
            write 2 0 0 7 = 999
            isSound = false
            end 2 = 1
            isSound = true
            """);
        run("promise 38: each VALUE (ROW 3 of PAGE 5, more than is due)", """
            begin = 0
            write 0 5 0 999 = 0
            end 0 = 1
            flush 5 = 1
            spoil 5 0 = 1
            249 times spoil 5 3 = 1
            spoil 5 2 = 0
            begin = 1
            write 1 5 0 7 = 999
            write 1 5 2 8 = 0
            end 1 = 1
            afterMends 0 5 = 7 0 8 249
            isSound = false
            begin = 2
            write 2 5 3 9 = 0
            end 2 = 1
            isSound = true
            """);
        run("promise 38: NEW of the last CHANGE or BACK of it by a WORK with a SAFE END (0 without one)", """
            group 2 = 1
            begin = 0
            point 0 = 0
            write 0 0 0 5 = 0
            write 0 0 1 6 = 0
            back 0 0 = 2
            write 0 0 1 7 = 0      # ROW 0 has a BACK, ROW 1 a CHANGE behind it
            end 0 = 0
            isSound = true         # nothing is SAFE
            flush 0 = 1
            isSound = true         # its END is not SAFE
            afterMends 0 0 = 0 0 0 0
            begin = 1
            end 1 = 1
            isSound = true
            afterMends 0 0 = 0 7 0 0
            begin = 2
            write 2 0 1 8 = 7
            roll 2 = 1
            begin = 3
            write 3 0 0 9 = 0
            flush 0 = 1
            isSound = true         # WORK 3 is OPEN, and what it wrote is SAFE
            mark = 16
            force 99 = 16
            isSound = true
            crash = 0
            isSound = true
            mend 0 false = 0
            isSound = true
            mend 99 true = 1
            isSound = true
            begin = 4
            write 4 0 2 3 = 0
            end 4 = 0
            isSound = true
            group 1 = 2
            isSound = true
            afterMends 0 0 = 0 7 3 0
            afterMends 1 0 = 0 7 3 0
            """);
        run("promise 36: wouldMend", """
            wouldMend 4 = 0
            wouldMend 5 = ARGUMENT
            wouldMend -1 = ARGUMENT
            group 4 = 1
            begin = 0
            begin = 1
            write 0 0 0 1 = 0
            write 1 1 0 2 = 0
            write 0 0 1 3 = 0
            wouldMend 0 = 0        # nothing is safe
            end 0 = 0
            flush 1 = 1
            wouldMend 0 = 4
            wouldMend 1 = 1        # page 1 is written
            wouldMend 2 = 2
            wouldMend 3 = 2
            wouldMend 4 = 3
            force 99 = 6
            wouldMend 1 = 2
            wouldMend 2 = 1        # the END of work 0 is safe
            wouldMend 3 = 1
            mark = 7
            wouldMend 0 = 6        # the mark is not safe
            force 1 = 7
            wouldMend 0 = 0
            wouldMend 1 = 2        # page 0 is in its table
            wouldMend 4 = 3
            flush 0 = 1
            mark = 8
            force 1 = 8
            wouldMend 4 = 0
            wouldMend 2 = 1
            house 8 = 0            # nothing is changed
            house 10 = 0
            house 0 = 8
            """);
        run("promise 37: afterMend", """
            begin = 0
            write 0 0 0 5 = 0
            end 0 = 1
            begin = 1
            write 1 0 0 6 = 5
            write 1 0 1 7 = 0
            value 0 0 0 = 6
            afterMend 0 0 0 = 5
            flush 0 = 1
            mark = 7
            afterMend 1 0 0 = INDEX
            force 1 = 7
            afterMend 1 0 0 = 5
            afterMend 1 0 1 = 0
            afterMend 2 0 0 = INDEX
            afterMend -1 0 0 = INDEX
            afterMend 0 6 0 = INDEX
            afterMend 0 0 4 = INDEX
            end 1 = 1
            afterMend 0 0 0 = 6
            afterMend 1 0 0 = 6
            afterMend 1 0 1 = 7
            spoil 0 0 = 1
            afterMend 1 0 0 = 6    # as if restored
            spoil 0 0 = 1
            house 8 = 0
            value 0 0 1 = 8
            ofPage 0 6 = 1
            """);
        run("promise 37: afterMend restores what is torn", """
            begin = 0
            write 0 0 0 5 = 0
            end 0 = 1
            flush 0 = 1
            copy = 0
            follow 9 = 3
            cut = 3
            spoil 0 0 = 1
            afterMend 0 0 0 = 5    # from the copy, as no record is kept
            """);
        // 999 less in row 0, and 249 * 4 + 1 * 3 more: the SUM is right, and the values are not.
        run("promise 38: isSound", """
            begin = 0
            write 0 0 0 999 = 0
            end 0 = 1
            flush 0 = 1
            spoil 0 0 = 1
            isSound = true         # a torn copy would be restored
            249 times spoil 0 3 = 1
            spoil 0 2 = 0
            ofPage 0 6 = 0
            isSound = false
            afterMend 0 0 0 = 0
            afterMend 0 0 3 = 249
            restore 0 = -8
            mark = 4
            force 1 = 4
            afterMend 1 0 3 = 249
            crash = 0
            restore 0 = 1
            isSound = true
            """);
        run("promise 38: isSound of marks", """
            begin = 0
            write 0 0 0 999 = 0
            end 0 = 1
            flush 0 = 1
            spoil 0 0 = 1
            249 times spoil 0 3 = 1
            spoil 0 2 = 0
            follow 9 = 3
            cut = 1
            isSound = true         # it was cut: no values are due, and all marks tell the same
            """);
        run("promise 39: digest", """
            digest = 9167573254223764864
            knock = 1
            digest = %d
            """.formatted(9167573254223764864L + power(31, DIGEST_BEHIND_KNOCKS)));
        run("promise 39: digest counts what it tells last", """
            group 4 = 1
            digest = %d
            """.formatted(9167573254223764864L + 3 * power(31, DIGEST_BEHIND_KNOCKS + 7)));
    }

    // 60 numbers of pages, 120 of rows, 2 lengths, 5 of mending, 1 if sound.
    private static final int DIGEST_BEHIND_KNOCKS = 60 + 120 + 2 + 5 + 1;

    private static long power(long base, int exponent) {
        long product = 1;
        for (int i = 0; i < exponent; i++) {
            product *= base;
        }
        return product;
    }

    private static void readme() {
        run("the example in README.md", """
            begin = 0
            write 0 0 2 77 = 0
            end 0 = 1
            crash = 0
            value 0 2 0 = 0
            mend 999 false = 1
            value 0 2 0 = 77
            """);
    }

    public static void main(String[] args) {
        readme();
        works();
        undoing();
        framesAndLog();
        crashes();
        questions();
        owing();
        whatWouldBe();
        RUNS.finish("promises");
    }
}
