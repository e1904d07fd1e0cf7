/** The sentences of section 3, works and locks: the title of each run is the sentence that it looks at. */
public final class LocksTest {
    private static final Runs RUNS = new Runs();

    private LocksTest() {
    }

    private static void run(String title, String rows) {
        RUNS.run(title, rows);
    }

    private static void works() {
        run("WORKS are numbered from 0 as they begin; at most 4 are OPEN at once", """
            begin = 0
            begin = 1
            begin = 2
            begin = 3
            house 5 = 4
            ! begin = STATE
            house 0 = 4
            house 4 = 4
            roll 1 = 0
            house 5 = 3
            begin = 4
            ! begin = STATE
            end 0 = 1
            begin = 5
            ! begin = STATE
            house 4 = 6
            house 5 = 4
            """);
        run("at most 4 are OPEN at once (ENDING ones are not OPEN)", """
            group 4 = 1
            begin = 0
            begin = 1
            begin = 2
            begin = 3
            end 0 = 0
            end 1 = 0
            house 5 = 2
            house 6 = 2
            begin = 4
            begin = 5
            ! begin = STATE
            """);
        run("at most 4 are OPEN at once (a crash leaves none OPEN)", """
            begin = 0
            begin = 1
            begin = 2
            begin = 3
            force 2 = 2
            crash = 2
            house 5 = 0
            ! begin = STATE        # the house is DOWN
            mend 0 false = 0
            begin = 4
            begin = 5
            begin = 6
            begin = 7
            ! begin = STATE
            """);
        run("STATES: 0 OPEN, 1 ENDING, 2 ENDED, 3 GONE, 4 LOST", """
            group 2 = 1
            begin = 0
            ofWork 0 0 = 0
            end 0 = 0
            ofWork 0 0 = 1
            begin = 1
            end 1 = 1
            ofWork 0 0 = 2
            ofWork 1 0 = 2
            begin = 2
            roll 2 = 0
            ofWork 2 0 = 3         # its GONE is not SAFE yet
            begin = 3
            force 9 = 7
            crash = 0
            ofWork 3 0 = 4
            ofWork 2 0 = 3
            mend 0 false = 0
            ofWork 3 0 = 3
            """);
        run("As soon as GROUP (.. 1 at first) WORKS are ENDING, the whole LOG becomes SAFE", """
            begin = 0
            begin = 1
            write 1 0 0 1 = 0
            house 1 = 0
            end 0 = 1
            house 1 = 4
            ofWork 0 0 = 2
            ofWork 1 0 = 0
            house 6 = 0
            """);
        run("As soon as GROUP (1 to 4) WORKS are ENDING (4)", """
            group 4 = 1
            begin = 0
            begin = 1
            begin = 2
            begin = 3
            end 0 = 0
            end 1 = 0
            end 2 = 0
            house 6 = 3
            house 1 = 0
            end 3 = 1
            house 6 = 0
            house 1 = 8
            ofWork 0 0 = 2
            ofWork 3 0 = 2
            """);
        run("As soon as GROUP (1 to 4) WORKS are ENDING (2 and 3)", """
            group 2 = 1
            begin = 0
            begin = 1
            begin = 2
            end 1 = 0
            end 0 = 1
            house 1 = 5
            group 3 = 2
            end 2 = 0
            begin = 3
            begin = 4
            end 4 = 0
            house 1 = 5
            house 6 = 2
            mark = 10
            end 3 = 1
            house 1 = 11           # the whole LOG
            """);
        run("ENDING (its END is not SAFE yet)", """
            group 3 = 1
            begin = 0
            begin = 1
            begin = 2
            begin = 3
            end 0 = 0              # record 5
            end 1 = 0              # record 6
            force 5 = 5
            ofWork 0 0 = 2
            ofWork 1 0 = 1
            house 6 = 1
            end 2 = 0              # two are ENDING now
            house 6 = 2
            end 3 = 1
            house 6 = 0
            """);
        run("ENDING (a crash leaves none)", """
            group 2 = 1
            begin = 0
            begin = 1
            end 0 = 0
            force 2 = 2
            crash = 1
            house 6 = 0
            ofWork 0 0 = 4
            mend 0 false = 0
            begin = 2
            end 2 = 0
            house 6 = 1
            """);
        run("As its END is put (also if that is not SAFE yet), .. a WORK lets all its LOCKS and POINTS go", """
            group 4 = 1
            begin = 0
            begin = 1
            lock 0 0 true = 4
            write 0 1 1 5 = 0
            read 0 2 2 = 0
            point 0 = 0
            allOfWork 0 = 0 3 1 1 5 0 -1
            end 0 = 0
            allOfWork 0 = 1 4 1 0 0 0 -1
            locks 0 0 = 0 0 0 0 0
            locks 0 1 = 0 0 0 0 0
            locks 0 2 = 0 0 0 0 0
            write 1 0 0 1 = 0
            write 1 1 1 1 = 5
            lock 1 2 true = 4
            """);
        run("or as it is rolled back, a WORK lets all its LOCKS and POINTS go", """
            begin = 0
            begin = 1
            lock 0 0 true = 4
            write 0 1 1 5 = 0
            read 0 2 2 = 0
            point 0 = 0
            roll 0 = 1
            allOfWork 0 = 3 5 0 0 0 0 -1
            write 1 0 0 1 = 0
            write 1 1 1 1 = 0
            lock 1 2 true = 4
            """);
    }

    private static final String[] ASKED = {"", "read %d 0 %d", "write %d 0 %d 5", "lock %d 0 false", "lock %d 0 true"};

    private static boolean go(int one, int other) {
        String goes = " 11 12 13 21 22 31 33 ";
        return one == 0 || other == 0 || goes.contains(" " + one + other + " ");
    }

    /** The row of a call that asks for a LOCK, with its answer. */
    private static String row(int lock, int work, int row, int due) {
        return String.format(ASKED[lock], work, row) + " = " + due + "\n";
    }

    private static int told(int lock, int then) {
        return lock <= 2 ? 0 : then;
    }

    private static void pairs() {
        for (int one = 1; one <= 4; one++) {
            for (int other = 1; other <= 4; other++) {
                boolean go = go(one, other);
                run("on a PAGE: 1 goes with 1, 2 and 3; 2 with 1 and 2; 3 with 1 and 3; 4 with none: " + one + other,
                    "begin = 0\nbegin = 1\n" + row(one, 0, 0, told(one, one)) + row(other, 1, 1, go ? told(other, other) : -6)
                    + "lockOf 0 0 -1 = " + one + "\nlockOf 1 0 -1 = " + (go ? other : 0)
                    + "\nofWork 1 5 = " + (go ? 0 : 1) + "\nofWork 1 6 = " + (go ? -1 : 0)
                    + "\nhouse 12 = " + (go ? 0 : 1) + "\nisSound = true\n"
                    + row(other, 1, 1, go ? other == 2 ? 5 : told(other, other) : -6));
            }
        }
        for (int one = 1; one <= 2; one++) {
            for (int other = 1; other <= 2; other++) {
                boolean go = one == 1 && other == 1;
                run("On a ROW two WORKS can have LOCKS, if both are SHARED: " + one + other,
                    "begin = 0\nbegin = 1\n" + row(one, 0, 2, 0)
                    + String.format(ASKED[other], 1, 2) + " = " + (go ? 0 : -6)
                    + "\nlockOf 0 0 2 = " + one + "\nlocks 1 0 = " + (go ? "1 0 0 1 0" : "0 0 0 0 0")
                    + "\nofWork 1 4 = " + (go ? 2 : 0) + "\nofWork 1 6 = " + (go ? -1 : 0) + "\n");
            }
        }
    }

    // What a WORK did, and its LOCKS then: on the PAGE, on ROW 0, on ROW 1.
    private static final String[][] HELD = {
        {"", "0 0 0"},
        {"read 0 0 0 = 0", "1 1 0"},
        {"write 0 0 0 5 = 0", "2 2 0"},
        {"write 0 0 0 5 = 0\nread 0 0 1 = 0", "2 2 1"},
        {"lock 0 0 false = 3", "3 0 0"},
        {"read 0 0 0 = 0\nlock 0 0 false = 3", "3 1 0"},
        {"lock 0 0 true = 4", "4 0 0"},
        {"write 0 0 0 5 = 0\nlock 0 0 true = 4", "4 2 0"},
    };
    private static final String[] NEXT = {"read 0 0 0", "read 0 0 1", "write 0 0 0 6", "write 0 0 1 6",
        "lock 0 0 false", "lock 0 0 true"};
    // To each of HELD, the LOCKS behind each of NEXT.
    private static final String[][] THEN = {
        {"1 1 0", "1 0 1", "2 2 0", "2 0 2", "3 0 0", "4 0 0"},
        {"1 1 0", "1 1 1", "2 2 0", "2 1 2", "3 1 0", "4 1 0"},
        {"2 2 0", "2 2 1", "2 2 0", "2 2 2", "4 2 0", "4 2 0"},
        {"2 2 1", "2 2 1", "2 2 1", "2 2 2", "4 2 1", "4 2 1"},
        {"3 0 0", "3 0 0", "4 0 0", "4 0 0", "3 0 0", "4 0 0"},
        {"3 1 0", "3 1 0", "4 1 0", "4 1 0", "3 1 0", "4 1 0"},
        {"4 0 0", "4 0 0", "4 0 0", "4 0 0", "4 0 0", "4 0 0"},
        {"4 2 0", "4 2 0", "4 2 0", "4 2 0", "4 2 0", "4 2 0"},
    };

    private static int answer(int held, int next) {
        int value = HELD[held][0].startsWith("write") ? 5 : 0;
        int page = THEN[held][next].charAt(0) - '0';
        return next >= 4 ? page : next % 2 == 0 ? value : 0;
    }

    private static int count(String locks) {
        return locks.replaceAll("[ 0]", "").length();
    }

    private static void changes() {
        for (int held = 0; held < HELD.length; held++) {
            for (int next = 0; next < NEXT.length; next++) {
                String then = THEN[held][next];
                run("To read a ROW .. To write .. To lock a PAGE: with " + HELD[held][1] + " " + NEXT[next],
                    "begin = 0\n" + HELD[held][0] + "\nlocks 0 0 = " + HELD[held][1] + " 0 0\n" + NEXT[next] + " = "
                    + answer(held, next) + "\nlocks 0 0 = " + then + " 0 0\nofWork 0 4 = " + count(then)
                    + "\nofWork 0 5 = 0\nlocks 0 1 = 0 0 0 0 0\n");
            }
        }
    }

    /** Each change of the LOCK on the PAGE, with another WORK that has a LOCK there (and of ROWS one on ROW 3). */
    private static void blockedChanges() {
        for (int held = 0; held < HELD.length; held++) {
            for (int next = 0; next < NEXT.length; next++) {
                for (int other = 1; other <= 4; other++) {
                    int has = HELD[held][1].charAt(0) - '0';
                    int gets = THEN[held][next].charAt(0) - '0';
                    if (!go(has, other)) {
                        continue;
                    }
                    boolean go = go(gets, other);
                    String then = go ? THEN[held][next] : HELD[held][1];
                    run("If some LOCK that it would get can not go with one of another WORK, it gets none (-6): with "
                        + HELD[held][1] + " " + NEXT[next] + " against " + other,
                        "begin = 0\nbegin = 1\n" + row(other, 1, 3, told(other, other)) + HELD[held][0] + "\n" + NEXT[next]
                        + " = " + (go ? answer(held, next) : -6) + "\nlocks 0 0 = " + then + " 0 0\nofWork 0 5 = "
                        + (go ? 0 : 1) + "\nofWork 0 6 = " + (go ? -1 : 1) + "\nisSound = true\n");
                }
            }
        }
        run("If some LOCK that it would get can not go with one of another WORK (of the ROW), it gets none", """
            begin = 0
            begin = 1
            read 0 0 0 = 0
            read 1 0 0 = 0
            ? write 1 0 0 1 = -6   # 2 on the PAGE goes with 1, SOLE on the ROW does not go with SHARED
            locks 1 0 = 1 1 0 0 0
            write 0 1 1 5 = 0
            ? read 1 1 1 = -6      # 1 on the PAGE goes with 2
            ? write 1 1 1 5 = -6
            locks 1 1 = 0 0 0 0 0
            write 1 1 2 5 = 0
            locks 1 1 = 2 0 0 2 0
            ? read 1 1 1 = -6
            locks 1 1 = 2 0 0 2 0
            house 12 = 4
            house 0 = 4
            """);
        run("LOCKS of a ROW are of that ROW and PAGE alone", """
            begin = 0
            begin = 1
            write 0 0 3 1 = 0
            write 0 1 0 1 = 0
            write 1 0 0 1 = 0
            write 1 1 3 1 = 0
            write 1 2 3 1 = 0
            house 12 = 0
            locks 0 0 = 2 0 0 0 2
            locks 0 1 = 2 2 0 0 0
            locks 1 1 = 2 0 0 0 2
            """);
    }

    private static void waits() {
        run("and WAITS for all WORKS whose LOCKS are in the way of those that it would get", """
            begin = 0
            begin = 1
            begin = 2
            begin = 3
            read 2 0 0 = 0
            read 1 0 1 = 0
            read 3 0 0 = 0
            write 0 0 0 5 = -6     # WORK 1 has another ROW, and 2 on the PAGE goes with 1
            ofWork 0 5 = 1
            ofWork 0 6 = 2
            lock 0 0 true = -6
            ofWork 0 6 = 1         # now all three are in the way
            end 1 = 1
            ofWork 0 6 = 2
            end 2 = 1
            ofWork 0 6 = 3
            end 3 = 1
            ofWork 0 6 = -1
            ofWork 0 5 = 1
            """);
        run("(For whom, is as LOCKS are now ..)", """
            begin = 0
            begin = 1
            begin = 2
            write 2 0 0 1 = 0
            write 1 0 0 2 = -6
            ofWork 1 6 = 2
            roll 2 = 1
            ofWork 1 6 = -1
            ofWork 1 5 = 1
            read 0 0 0 = 0         # a LOCK that came later is in the way, too
            ofWork 1 6 = 0
            begin = 3
            read 3 0 0 = 0
            end 0 = 1
            ofWork 1 6 = 3
            """);
        run("(.. by the last call of it that told -6.)", """
            begin = 0
            begin = 1
            begin = 2
            write 0 0 0 1 = 0
            write 2 1 0 1 = 0
            read 1 1 0 = -6
            ofWork 1 6 = 2
            read 1 0 0 = -6
            ofWork 1 6 = 0
            lock 1 1 false = -6
            ofWork 1 6 = 2
            write 1 0 1 5 = 0      # that tells something else
            ofWork 1 5 = 0
            ofWork 1 6 = -1
            """);
        run("It WAITS, till a read(), write() or lock() of it tells something else", """
            begin = 0
            begin = 1
            write 0 0 0 1 = 0
            read 1 0 0 = -6
            read 1 1 0 = 0
            ofWork 1 5 = 0
            read 1 0 0 = -6
            ofWork 1 5 = 1
            write 1 1 0 5 = 0
            ofWork 1 5 = 0
            lock 1 0 false = -6
            ofWork 1 5 = 1
            lock 1 2 false = 3
            ofWork 1 5 = 0
            write 1 0 0 5 = -6
            spoil 3 0 = 1
            read 1 3 0 = -5        # something else
            ofWork 1 5 = 0
            lock 1 0 true = -6
            write 1 3 0 7 = -5
            ofWork 1 5 = 0
            flush 0 = 1
            pin 0 = 1
            pin 1 = 1
            pin 2 = 1
            read 1 0 0 = -6
            read 1 4 0 = -7
            ofWork 1 5 = 0
            read 1 0 0 = -6
            write 1 4 0 1 = -7
            ofWork 1 5 = 0
            house 12 = 7
            """);
        run("It WAITS, till .. (no other call ends that)", """
            begin = 0
            begin = 1
            write 0 0 0 1 = 0
            read 1 0 0 = -6
            ticket 1 1 = 1
            point 1 = 0
            back 1 0 = 0
            ofWork 1 5 = 1
            ! read 1 6 0 = INDEX
            ! write 1 1 0 1000 = ARGUMENT
            ! lock 1 -1 true = INDEX
            ofWork 1 5 = 1
            pin 3 = 1
            spoil 4 0 = 1
            ticket 1 4 = -5
            mark = 5
            read 0 1 0 = 0         # a call of another WORK
            end 0 = 1
            ofWork 1 5 = 1
            ofWork 1 6 = -1
            read 1 0 0 = 1
            ofWork 1 5 = 0
            """);
        run("or it is OPEN no more", """
            begin = 0
            begin = 1
            begin = 2
            begin = 3
            write 0 0 0 1 = 0
            read 1 0 0 = -6
            read 2 0 0 = -6
            read 3 0 0 = -6
            group 4 = 1
            end 1 = 0
            ofWork 1 5 = 0
            ofWork 1 6 = -1
            roll 2 = 0
            ofWork 2 5 = 0
            ofWork 2 6 = -1
            ofWork 3 5 = 1
            force 99 = 7
            crash = 0
            ofWork 3 0 = 4
            ofWork 3 5 = 0
            ofWork 3 6 = -1
            house 12 = 3
            """);
        run("-6 changes nothing (the PAGE is not GOT, and it keeps its LOCKS)", """
            begin = 0
            begin = 1
            write 0 0 0 1 = 0
            read 1 0 1 = 0
            read 1 1 0 = 0
            frames = 0* 1
            ? write 1 0 0 5 = -6
            frames = 0* 1
            locks 1 0 = 1 0 1 0 0
            lock 0 2 true = 4
            ? read 1 2 0 = -6
            frames = 0* 1
            house 12 = 2
            """);
    }

    private static void rings() {
        run("RING: the WORKS from which one comes to themselves", """
            begin = 0
            begin = 1
            ring = -
            breakRing = -1
            write 0 0 0 1 = 0
            write 1 1 0 1 = 0
            write 0 1 0 2 = -6
            ring = -               # WORK 0 waits, and no one for it
            write 1 0 0 2 = -6
            ring = 0 1
            read 1 2 0 = 0         # it waits no more
            ring = -
            breakRing = -1
            """);
        run("RING: .. going from WORK to WORK for which it WAITS (of three and of four)", """
            begin = 0
            begin = 1
            begin = 2
            begin = 3
            write 0 0 0 1 = 0
            write 1 1 0 1 = 0
            write 2 2 0 1 = 0
            write 3 3 0 1 = 0
            write 0 2 0 2 = -6
            write 2 3 0 2 = -6
            write 3 1 0 2 = -6
            ring = -
            write 1 0 0 2 = -6     # 0 for 2, 2 for 3, 3 for 1, 1 for 0
            ring = 0 1 2 3
            write 2 1 0 2 = -6     # 2 for 1: no one waits for 3 any more
            ring = 0 1 2
            breakRing = 2
            ring = -
            """);
        run("a WORK that only leads into a RING is not in it, nor one to which it leads", """
            begin = 0
            begin = 1
            begin = 2
            begin = 3
            write 1 1 0 1 = 0
            write 2 2 0 1 = 0
            write 3 3 0 1 = 0
            read 3 1 1 = 0
            write 1 2 0 2 = -6
            lock 2 1 true = -6     # for 1 and 3
            ofWork 2 6 = 1
            write 0 2 0 2 = -6     # only leads into it
            ofWork 0 6 = 2
            ring = 1 2
            breakRing = 2
            ofWork 0 0 = 0
            ofWork 3 0 = 0
            """);
        run("of several rings that with the smallest WORK in it", """
            begin = 0
            begin = 1
            begin = 2
            begin = 3
            write 0 0 0 1 = 0
            write 1 1 0 1 = 0
            write 2 2 0 1 = 0
            write 3 3 0 1 = 0
            write 1 2 0 2 = -6
            write 2 1 0 2 = -6
            ring = 1 2
            write 0 3 0 2 = -6
            ring = 1 2
            write 3 0 0 2 = -6
            ring = 0 3
            breakRing = 3
            ring = 1 2
            breakRing = 2
            ring = -
            breakRing = -1
            """);
        run("that WORK, and all to which one comes from it and from which one comes back to it", """
            begin = 0
            begin = 1
            begin = 2
            write 0 0 0 1 = 0
            write 2 2 0 1 = 0
            read 1 3 0 = 0
            read 1 0 1 = 0
            read 1 2 1 = 0
            lock 0 3 true = -6     # 0 for 1
            lock 2 3 true = -6     # 2 for 1
            ring = -
            write 1 0 0 5 = -6     # 1 for 0
            ring = 0 1
            read 1 2 0 = -6        # 1 for 2 instead
            ring = 1 2
            """);
        run("that WORK, and all .. (two rings through one WORK)", """
            begin = 0
            begin = 1
            begin = 2
            begin = 3
            read 0 0 0 = 0
            read 2 0 0 = 0
            write 1 1 0 1 = 0
            read 0 1 0 = -6        # 0 for 1
            read 2 1 0 = -6        # 2 for 1
            write 1 0 0 1 = -6     # 1 for 0 and 2
            ring = 0 1 2
            read 3 1 0 = -6
            ring = 0 1 2
            breakRing = 2          # 0 and 2 have no CHANGES
            ring = 0 1
            breakRing = 0
            ring = -
            write 1 0 0 1 = 0
            """);
        run("that WORK, and all .. (two rings, one of which leads into the other)", """
            begin = 0
            begin = 1
            begin = 2
            begin = 3
            write 0 0 0 1 = 0
            write 1 1 0 1 = 0
            write 2 2 0 1 = 0
            write 3 3 0 1 = 0
            write 2 3 0 1 = -6
            write 3 2 0 1 = -6
            read 2 1 1 = 0         # 2 waits no more
            write 2 3 0 1 = -6
            read 1 2 1 = 0
            read 1 1 3 = 0
            lock 0 1 true = -6     # 0 for 1 and 2: it leads into the ring of 2 and 3
            ofWork 0 6 = 1
            read 1 0 0 = -6        # 1 for 0
            ring = 0 1
            roll 0 = 1
            ring = 2 3
            """);
    }

    public static void main(String[] args) {
        works();
        pairs();
        changes();
        blockedChanges();
        waits();
        rings();
        RUNS.finish("works and locks");
    }
}
