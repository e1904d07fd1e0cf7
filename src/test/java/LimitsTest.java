import java.math.BigInteger;
import java.util.ArrayList;
import java.util.List;

/**
 * Promises 2 to 39 at their limits: each argument at its least and its greatest, one beyond, and at the ends of int;
 * the order of the exceptions; each call while the house is DOWN; each question when there is nothing to tell.
 */
public final class LimitsTest {
    private static final Runs RUNS = new Runs();

    private LimitsTest() {
    }

    private static void run(String title, String rows) {
        RUNS.run(title, rows);
    }

    // WORK 0 has ended and WORKS 1 to 3 are OPEN (1 has POINTS 0 and 1); records 3 to 9 are KEPT; a MARK is SAFE, one is not.
    private static final String START = """
        begin = 0
        end 0 = 1
        follow 9 = 2
        cut = 2
        begin = 1
        point 1 = 0
        write 1 5 3 999 = 0
        point 1 = 1
        mark = 5
        force 9 = 5
        mark = 6
        begin = 2
        write 2 0 0 7 = 0
        begin = 3
        house 2 = 3
        house 0 = 9
        """;
    private static final String DOWN = """
        force 1 = 6
        force 99 = 9
        crash = 0
        spoil 5 0 = 1
        """;

    // A call, whether it is one of a house that is up (or of one that is DOWN), whether of an OPEN WORK, and its arguments:
    // one that is right, the least, the greatest, and the exception for others.
    private static final String[] CALLS = {
        "read up open 1:0:3:INDEX 0:0:5:INDEX 0:0:3:INDEX",
        "write up open 1:0:3:INDEX 0:0:5:INDEX 0:0:3:INDEX 1:0:999:ARGUMENT",
        "lock up open 1:0:3:INDEX 0:0:5:INDEX true",
        "lock up open 1:0:3:INDEX 0:0:5:INDEX false",
        "ticket up open 1:0:3:INDEX 0:0:5:INDEX",
        "point up open 1:0:3:INDEX",
        "back up open 1:0:3:INDEX 0:0:1:INDEX",
        "roll up open 1:0:3:INDEX",
        "end up open 1:0:3:INDEX",
        "group up any 2:1:4:ARGUMENT",
        "pin up any 0:0:5:INDEX",
        "unpin up any 0:0:5:INDEX",
        "flush up any 0:0:5:INDEX",
        "force up any 1:1:99:ARGUMENT",
        "mend down any 1:0:999:ARGUMENT true",
        "mend down any 1:0:999:ARGUMENT false",
        "spoil let any 0:0:5:INDEX 0:0:3:INDEX",
        "restore let any 0:0:5:INDEX",
        "follow let any 1:1:99:ARGUMENT",
        "ofPage let any 0:0:5:INDEX 0:0:9:ARGUMENT",
        "value let any 0:0:5:INDEX 0:0:3:INDEX 0:0:3:ARGUMENT",
        "ofWork let any 0:0:3:INDEX 0:0:6:ARGUMENT",
        "ofRecord let any 4:3:9:INDEX 0:0:9:ARGUMENT",
        "lockOf let any 0:0:3:INDEX 0:0:5:INDEX 0:-1:3:INDEX",
        "house let any 0:0:14:ARGUMENT",
        "owes let any 0:0:5:INDEX 0:0:3:INDEX",
        "wouldMend let any 0:0:4:ARGUMENT",
        "afterMend let any 0:0:1:INDEX 0:0:5:INDEX 0:0:3:INDEX",
    };

    /** The numbers beyond the limits of an argument: none of them is right. */
    private static List<String> beyond(String argument) {
        String[] parts = argument.split(":");
        int least = Integer.parseInt(parts[1]);
        int most = Integer.parseInt(parts[2]);
        List<String> found = new ArrayList<>();
        for (int n : new int[] {least - 1, most + 1, least - 256, most + 256, least - 65536,
            Integer.MIN_VALUE, Integer.MIN_VALUE + 1, Integer.MAX_VALUE, Integer.MAX_VALUE - 1}) {
            found.add(String.valueOf(n));
        }
        return found;
    }

    /** The calls with one argument beyond its limits, each with the exception that is due. */
    private static List<String> oneBeyond(String[] words, String mark) {
        List<String> rows = new ArrayList<>();
        for (int i = 3; i < words.length; i++) {
            if (words[i].contains(":")) {
                List<String> beyond = beyond(words[i]);
                for (String n : beyond) {
                    String quiet = beyond.indexOf(n) < 2 ? mark : "";
                    rows.add(quiet + with(words, i, n, -1, "") + " = " + words[i].split(":")[3]);
                }
            }
        }
        return rows;
    }

    /** The calls with two arguments beyond their limits: INDEX is named ahead of ARGUMENT everywhere. */
    private static List<String> twoBeyond(String[] words) {
        List<String> rows = new ArrayList<>();
        for (int i = 3; i < words.length; i++) {
            for (int k = i + 1; k < words.length && words[i].contains(":"); k++) {
                if (words[k].contains(":")) {
                    String due = words[i].endsWith("INDEX") || words[k].endsWith("INDEX") ? "INDEX" : "ARGUMENT";
                    rows.add(with(words, i, beyond(words[i]).get(0), k, beyond(words[k]).get(1)) + " = " + due);
                    rows.add(with(words, i, beyond(words[i]).get(1), k, beyond(words[k]).get(0)) + " = " + due);
                }
            }
        }
        return rows;
    }

    private static String right(String[] words) {
        return with(words, -1, "", -1, "");
    }

    private static String with(String[] words, int i, String n, int k, String m) {
        StringBuilder call = new StringBuilder(words[0]);
        for (int a = 3; a < words.length; a++) {
            call.append(' ').append(a == i ? n : a == k ? m : words[a].split(":")[0]);
        }
        return call.toString();
    }

    private static void limits() {
        for (String line : CALLS) {
            String[] words = line.split(" ");
            run("each argument that is one below its least and one above its greatest: " + words[0],
                START + String.join("\n", oneBeyond(words, "! ")));
            run("If several exceptions apply, the one that is named first is thrown: " + words[0],
                START + String.join("\n", twoBeyond(words)));
            if (words[1].equals("down")) {
                run("if the house is not DOWN: " + words[0], START + "! " + right(words) + " = STATE");
            }
            if (words[2].equals("open")) {
                notOpen(words);
            }
            // Both MARKS are SAFE then.
            whileDown(line.replace("afterMend let any 0:0:1", "afterMend let any 0:0:2").split(" "));
        }
    }

    private static String stateOr(String[] words) {
        return words[0].equals("back") ? "INDEX" : "STATE";
    }

    private static void notOpen(String[] words) {
        String due = stateOr(words);
        String[] ended = words.clone();
        ended[3] = words[3].replaceFirst("1", "0");
        run("or the WORK is not OPEN: " + words[0], START + "! " + right(ended) + " = " + due + "\n"
            + String.join("\n", oneBeyond(ended, "")) + "\n" + String.join("\n", twoBeyond(ended)));
        run("or the WORK is not OPEN (but ENDING, or GONE): " + words[0], START + "group 4 = 1\nend 1 = 0\nroll 2 = 1\n! "
            + with(words, 3, "1", -1, "") + " = " + due + "\n! " + with(words, 3, "2", -1, "") + " = " + due);
    }

    private static void whileDown(String[] words) {
        run("If several exceptions apply .. (as the house is DOWN): " + words[0], START + DOWN
            + String.join("\n", oneBeyond(words, "")) + "\n" + String.join("\n", twoBeyond(words)) + "\n"
            + (words[1].equals("up") ? "! " + right(words) + " = " + stateOr(words) : ""));
    }

    private static void corners() {
        run("the least and the greatest themselves: works", START + """
            write 3 5 0 0 = 0
            write 3 0 3 999 = 0
            write 3 5 0 999 = 0
            write 3 5 0 0 = 999
            read 3 0 3 = 999
            read 3 5 0 = 0
            lock 3 4 true = 4
            lock 1 4 true = -6
            ticket 3 0 = 1
            ticket 3 5 = 1
            lock 2 1 false = 3
            lock 1 0 true = -6
            point 3 = 0
            back 1 1 = 0
            back 1 0 = 1
            roll 1 = 0
            end 3 = 1
            end 2 = 1
            """);
        run("the least and the greatest themselves: frames and the log", START + """
            group 1 = 1
            group 4 = 1
            group 2 = 4
            pin 0 = 1
            pin 5 = 1
            unpin 0 = 0
            unpin 5 = 0
            flush 0 = 1
            flush 5 = 1
            force 1 = 9
            force 99 = 9
            """);
        run("the least and the greatest themselves: force", START + """
            force 1 = 6
            force 1 = 7
            force 2 = 9
            """);
        run("the least and the greatest themselves: crashes, copies, the mirror", START + """
            follow 1 = 3
            follow 99 = 5
            crash = 4
            spoil 0 0 = 1
            spoil 5 3 = 1
            restore 0 = 0
            restore 5 = 1
            mend 0 false = 0
            """);
        run("the least and the greatest themselves: what is asked", START + """
            allOfPage 0 = 1 1 8 8 0 0 0 0 0 0
            allOfPage 5 = 1 1 4 4 0 0 0 0 0 0
            values 0 0 = 7 0 0 0
            values 5 3 = 999 0 0 0
            allOfWork 0 = 2 0 0 0 0 0 -1
            allOfWork 3 = 0 9 0 0 0 0 -1
            allOfWork 1 = 0 4 1 2 2 0 -1
            allOfRecord 3 = 0 1 -1 -1 -1 -1 0 -1 -1 -1
            allOfRecord 9 = 0 3 -1 -1 -1 -1 0 -1 -1 -1
            lockOf 0 0 -1 = 0
            lockOf 1 5 -1 = 2
            lockOf 1 5 3 = 2
            lockOf 2 0 0 = 2
            lockOf 3 5 3 = 0
            allOfHouse = 9 5 3 2 4 3 0 1 0 2 0 0 0 0 0
            owes 0 0 = 8
            owes 5 3 = 4
            owes 5 0 = -1
            wouldMends = 0 1 1 1 4
            afterMends 0 0 = 0 0 0 0
            afterMends 1 5 = 0 0 0 0
            ! afterMend 2 0 0 = INDEX
            """);
    }

    private static void down() {
        run("each call while the house is DOWN", START + """
            force 99 = 9
            crash = 0
            ! begin = STATE
            ! read 1 5 3 = STATE
            ! write 1 5 3 1 = STATE
            ! lock 1 0 true = STATE
            ! ticket 1 0 = STATE
            ! point 1 = STATE
            ! back 1 0 = INDEX     # POINTS are lost
            ! roll 1 = STATE
            ! end 1 = STATE
            ! group 4 = STATE
            ! breakRing = STATE
            ! pin 0 = STATE
            ! unpin 0 = STATE
            ! flush 0 = STATE
            ! force 1 = STATE
            ! mark = STATE
            ! cut = STATE
            house 8 = 1
            house 13 = 0
            crash = 0
            spoil 5 3 = 1
            copy = 1
            restore 5 = 1
            copy = 0
            ofPage 5 8 = 4
            follow 1 = 3
            follow 99 = 9
            knock = 1
            takeOver = 1           # PAGE 0
            frames = -
            ring = -
            ! house 8 = 1
            ! ofPage 5 2 = 4
            ! value 5 3 1 = 999
            ! ofWork 1 0 = 4
            ! ofRecord 9 0 = 0
            ! lockOf 1 5 3 = 0
            ! owes 5 3 = 4
            wouldMends = 3 0 2 3 4
            afterMend 0 5 3 = 0
            afterMend 2 5 3 = 0
            isSound = true
            mend 2 false = 2
            house 8 = 0
            begin = 4
            """);
        run("each call that is let while the house is DOWN leaves it DOWN", """
            crash = 0
            copy = 0
            restore 0 = 0
            follow 1 = 0
            knock = 1
            spoil 0 0 = 1
            crash = 0
            takeOver = 1
            house 8 = 1
            begin = STATE
            mend 0 false = 0
            begin = 0
            """);
    }

    private static void nothing() {
        run("each query when there is nothing to tell", """
            ring = -
            frames = -
            breakRing = -1
            house 0 = 0
            house 2 = 1
            owes 0 0 = -1
            owes 5 3 = -1
            wouldMends = 0 0 0 0 0
            afterMends 0 0 = 0 0 0 0
            isSound = true
            ! ofWork 0 0 = INDEX
            ! ofRecord 1 0 = INDEX
            ! ofRecord 0 0 = INDEX
            ! lockOf 0 0 0 = INDEX
            ! afterMend 1 0 0 = INDEX
            begin = 0
            allOfWork 0 = 0 1 0 0 0 0 -1
            locks 0 0 = 0 0 0 0 0
            allOfRecord 1 = 0 0 -1 -1 -1 -1 0 -1 -1 -1
            allOfPage 0 = 0 0 0 0 0 0 0 0 0 0
            flush 0 = 0
            force 99 = 1
            force 1 = 1
            follow 99 = 1
            cut = 0
            copy = 0
            restore 0 = 0
            point 0 = 0
            back 0 0 = 0
            roll 0 = 0
            crash = 1
            crash = 0
            takeOver = 0
            mend 0 true = 0
            """);
        run("the numbers of what has been are gone with it", """
            begin = 0
            begin = 1
            write 0 0 0 5 = 0
            write 1 0 0 6 = -6
            point 0 = 0
            ofWork 1 6 = 0
            end 0 = 1
            ofWork 1 6 = -1
            ring = -
            roll 1 = 0
            allOfWork 0 = 2 4 1 0 0 0 -1
            allOfWork 1 = 3 5 0 0 0 0 -1
            flush 0 = 1
            frames = 0
            crash = 1
            frames = -
            mend 0 false = 0
            frames = 0             # GOT for record 3
            owes 0 0 = 3
            owes 0 1 = -1
            """);
    }

    /** What promise 39 counts, in its order. */
    private static List<String> counted(List<Runs.Call> calls) {
        Pagehouse x = Runs.played(calls);
        int works = x.house(4);
        int last = x.house(0);
        int kept = x.house(2);
        List<String> all = new ArrayList<>(Runs.each("house", 0, 15));
        for (int page = 0; page <= 5; page++) {
            all.addAll(Runs.each("ofPage " + page, 0, 10));
            for (int row = 0; row <= 3; row++) {
                all.addAll(Runs.each("value " + page + " " + row, 0, 4));
                all.add("owes " + page + " " + row);
            }
        }
        for (int work = Math.max(0, works - 6); work < works; work++) {
            all.addAll(Runs.each("ofWork " + work, 0, 7));
        }
        for (int record = Math.max(kept, last - 7); record <= last; record++) {
            all.addAll(Runs.each("ofRecord " + record, 0, 10));
        }
        all.addAll(List.of("ring", "frames"));
        all.addAll(Runs.each("wouldMend", 0, 5));
        all.add("isSound");
        return all;
    }

    private static int number(String question, String answer) {
        switch (question) {
            case "ring":
            case "frames":
                return answer.length();
            case "isSound":
                return answer.equals("true") ? 1 : 0;
            default:
                return Integer.parseInt(answer);
        }
    }

    /** The checksum behind some calls, without any wrapping: its last 64 bits are due. */
    private static BigInteger sum(List<Runs.Call> calls, List<String> questions) {
        BigInteger d = BigInteger.valueOf(6113);
        List<String> answers = Runs.answers(calls, questions);
        for (int i = 0; i < questions.size(); i++) {
            d = d.multiply(BigInteger.valueOf(31)).add(BigInteger.valueOf(number(questions.get(i), answers.get(i))));
        }
        return d;
    }

    /** Looks at the digest behind some calls, which counts so many numbers; tells it. */
    private static long digest(String what, String rows, int numbers) {
        List<Runs.Call> calls = Runs.calls(rows.isEmpty() ? List.of() : List.of(rows.split(",")));
        List<String> questions = counted(calls);
        BigInteger d = sum(calls, questions);
        Pagehouse x = Runs.played(calls);
        long told = x.digest();
        RUNS.check(questions.size() == numbers, "digest of " + what + ": " + questions.size() + " numbers");
        RUNS.check(d.bitLength() > 64, "digest of " + what + " would not wrap around");
        RUNS.check(told == d.longValue(), "digest of " + what);
        RUNS.check(x.digest() == told, "digest of " + what + ", told again");
        return told;
    }

    // 15 numbers of the house, 6 times 10 + 4 * 5 of the pages, 2 lengths, 5 of mending, 1 if it is sound.
    private static final int LEAST = 15 + 6 * 30 + 2 + 5 + 1;

    private static void digests() {
        digest("a new object", "", LEAST);
        String rows = "begin";
        digest("one WORK and record", rows, LEAST + 7 + 10);
        rows += ",begin,begin,begin";
        digest("4 WORKS and records", rows, LEAST + 28 + 40);
        rows += ",write 0 0 0 999,write 1 1 0 1,ticket 2 2";
        digest("7 records", rows, LEAST + 28 + 70);
        rows += ",write 0 1 0 2,write 1 0 0 2,pin 2";
        digest("a ring and frames", rows, LEAST + 28 + 70);
        rows += ",mark";
        digest("8 records", rows, LEAST + 28 + 80);
        rows += ",roll 3";
        digest("9 records, of which 8 count", rows, LEAST + 28 + 80);
        rows += ",begin,roll 2,begin";
        digest("6 WORKS", rows, LEAST + 42 + 80);
        rows += ",end 5,begin";
        digest("7 WORKS, of which 6 count", rows, LEAST + 42 + 80);
        rows += ",end 0,end 1,end 4,end 6,flush 0,flush 1,flush 2,copy,follow 99,crash";
        digest("a house that is DOWN", rows, LEAST + 42 + 80);
        rows += ",mend 999 false,cut";
        digest("no record that is KEPT", rows, LEAST + 42);
        rows += ",begin,begin";
        digest("2 records that are KEPT", rows, LEAST + 42 + 20);
        rows += ",spoil 3 1,spoil 0 3";
        digest("PAGES that are TORN", rows, LEAST + 42 + 20);
        digest("what is not sound", "begin,write 0 0 0 999,end 0,flush 0,spoil 0 0,249 times spoil 0 3,spoil 0 2",
            LEAST + 7 + 30);
        int below = 0;
        for (int i = 1; i <= 20; i++) {
            below += digest(i + " knocks", i + " times knock", LEAST) < 0 ? 1 : 0;
            below += digest(i + " tickets", "begin," + i + " times ticket 0 0", LEAST + 7 + 10 * Math.min(8, i + 1)) < 0 ? 1 : 0;
        }
        RUNS.check(below > 0 && below < 40, "some digests are below 0, some above");
    }

    /** Runs of 512 calls, all of which have their answers. */
    private static void longest() {
        StringBuilder rows = new StringBuilder("begin = 0\n");
        for (int i = 0; i < 508; i++) {
            rows.append("write 0 ").append(i % 6).append(" 0 ").append(i % 7).append(" = ").append(i < 6 ? 0 : (i - 6) % 7)
                .append('\n');
        }
        run("An object is used for at most 512 calls (the longest LOG)", rows
            + "roll 0 = 508\nhouse 0 = 1018\nofRecord 1018 0 = 4\n");
        rows = new StringBuilder();
        for (int i = 0; i < 255; i++) {
            rows.append("begin = ").append(i).append("\nend ").append(i).append(" = 1\n");
        }
        run("An object is used for at most 512 calls (ended WORKS)", rows + "house 4 = 255\nofWork 254 0 = 2\n");
        rows = new StringBuilder();
        for (int i = 0; i < 85; i++) {
            for (int k = 0; k < 4; k++) {
                rows.append("begin = ").append(4 * i + k).append('\n');
            }
            rows.append("crash = 4\nmend 0 false = 0\n");
        }
        run("An object is used for at most 512 calls (the most WORKS)", rows + "begin = 340\nhouse 0 = 1\n");
        rows = new StringBuilder("begin = 0\n");
        for (int i = 0; i < 509; i++) {
            rows.append("point 0 = ").append(i).append('\n');
        }
        run("An object is used for at most 512 calls (the most POINTS)", rows + "back 0 508 = 0\nofWork 0 3 = 509\n");
        run("An object is used for at most 512 calls (the most PINS and REFUSED ones)",
            knocks(255) + pins(255) + "ofPage 3 4 = 255\nhouse 14 = 255\n");
        rows = new StringBuilder();
        for (int i = 1; i <= 509; i++) {
            rows.append("mark = ").append(i).append('\n');
        }
        run("An object is used for at most 512 calls (the most MARKS)", rows + "house 3 = 509\nforce 99 = 99\nafterMend 99 0 0 = 0\n");
        rows = new StringBuilder();
        for (int i = 1; i <= 255; i++) {
            rows.append("crash = 0\nmend 999 true = 0\n");
        }
        run("An object is used for at most 512 calls (the most crashes)", rows + "house 11 = 255\n");
    }

    private static String knocks(int many) {
        StringBuilder rows = new StringBuilder();
        for (int i = 1; i <= many; i++) {
            rows.append("knock = ").append(i).append('\n');
        }
        return rows.toString();
    }

    private static String pins(int many) {
        StringBuilder rows = new StringBuilder();
        for (int i = 1; i <= many; i++) {
            rows.append("pin 3 = ").append(i).append('\n');
        }
        return rows.toString();
    }

    public static void main(String[] args) {
        limits();
        corners();
        down();
        nothing();
        digests();
        longest();
        RUNS.finish("limits");
    }
}
