import java.lang.reflect.InvocationTargetException;
import java.lang.reflect.Method;
import java.lang.reflect.Modifier;
import java.util.ArrayList;
import java.util.Arrays;
import java.util.HashMap;
import java.util.List;
import java.util.Map;

/**
 * Runs of calls, each on a new object, written as rows: a call and the answer that is due.
 *
 * <pre>
 * write 0 1 2 7 = 0            INDEX, ARGUMENT and STATE stand for the exceptions; what stands behind # is for the reader
 * 9 times knock = 1            nine times, all with that answer
 * ! read 9 0 0 = INDEX         and it changes nothing: all that can be asked, also behind any next call, is as without it
 * ? read 0 3 0 = -5            and it changes nothing but who waits, and counts
 * allOfPage 0 = 1 0 0 ..       ten calls: ofPage 0 with 0, 1, 2 ..; so also allOfHouse, allOfWork, allOfRecord,
 *                              wouldMends, and values (of a PAGE and a ROW: now, SAFE, COPY, MIRROR)
 * rows 0 1 = 5 0 0 0           four calls: the VALUES of PAGE 0 that are SAFE (1), ROW by ROW
 * afterMends 1 0 = 5 0 0 0     four calls: afterMend() by MARK 1 of PAGE 0, ROW by ROW
 * locks 0 1 = 2 0 1 0 0        five calls: the LOCKS of WORK 0 on PAGE 1: of the PAGE itself, and ROW by ROW
 * </pre>
 */
final class Runs {
    private static final int MOST_CALLS = 512;
    private static final Map<String, Method> FACE = face();
    private static final Map<String, Call> CALLS = new HashMap<>();
    private static final Map<String, String> THROWN = Map.of("IndexOutOfBoundsException", "INDEX",
        "IllegalArgumentException", "ARGUMENT", "IllegalStateException", "STATE");
    private int wrong = 0;
    private int runs = 0;

    private static Map<String, Method> face() {
        Map<String, Method> found = new HashMap<>();
        for (Method m : Pagehouse.class.getDeclaredMethods()) {
            if (Modifier.isPublic(m.getModifiers())) {
                found.put(m.getName(), m);
            }
        }
        return found;
    }

    /** A call of the face, such as "write 0 1 2 7". */
    static final class Call {
        private final String text;
        private final Method method;
        private final Object[] args;

        private Call(String text) {
            this.text = text;
            String[] words = text.split(" +");
            method = FACE.get(words[0]);
            if (method == null || method.getParameterCount() != words.length - 1) {
                throw new AssertionError("there is no such call: " + text);
            }
            args = new Object[words.length - 1];
            for (int i = 0; i < args.length; i++) {
                boolean isFlag = method.getParameterTypes()[i] == boolean.class;
                args[i] = isFlag ? (Object) Boolean.valueOf(words[i + 1]) : (Object) Integer.valueOf(words[i + 1]);
            }
        }

        static Call of(String text) {
            return CALLS.computeIfAbsent(text, Call::new);
        }

        String on(Pagehouse x) {
            try {
                return String.valueOf(method.invoke(x, args));
            } catch (InvocationTargetException e) {
                String name = e.getCause().getClass().getSimpleName();
                return THROWN.getOrDefault(name, name);
            } catch (IllegalAccessException e) {
                throw new AssertionError(e);
            }
        }
    }

    /** The calls of some texts; "9 times knock" is nine of them. */
    static List<Call> calls(List<String> texts) {
        List<Call> calls = new ArrayList<>();
        for (String text : texts) {
            String[] parts = text.trim().split(" times ");
            for (int i = 0; i < (parts.length == 1 ? 1 : Integer.parseInt(parts[0])); i++) {
                calls.add(Call.of(parts[parts.length - 1]));
            }
        }
        return calls;
    }

    static Pagehouse played(List<Call> calls) {
        Pagehouse x = new Pagehouse();
        for (Call call : calls) {
            call.on(x);
        }
        return x;
    }

    static List<String> each(String start, int first, int many) {
        List<String> texts = new ArrayList<>();
        for (int i = first; i < first + many; i++) {
            texts.add(start + " " + i);
        }
        return texts;
    }

    /** All that can be asked of an object; if it is bare, without who waits, and what is counted. */
    static List<String> questions(Pagehouse x, boolean isBare) {
        int works = x.house(4);
        int last = x.house(0);
        int kept = x.house(2);
        int marks = x.house(3);
        List<String> all = new ArrayList<>(each("house", 0, 15));
        for (int p = 0; p < 6; p++) {
            all.addAll(each("ofPage " + p, 0, 10));
            all.addAll(each("owes " + p, 0, 4));
            for (int r = 0; r < 4; r++) {
                all.addAll(each("value " + p + " " + r, 0, 4));
            }
        }
        for (int w = 0; w < works; w++) {
            all.addAll(each("ofWork " + w, 0, 7));
            for (int p = 0; p < 6; p++) {
                all.addAll(each("lockOf " + w + " " + p, -1, 5));
            }
        }
        for (int r = kept; r <= last; r++) {
            all.addAll(each("ofRecord " + r, 0, 10));
        }
        all.addAll(each("wouldMend", 0, 5));
        for (int m = 0; m <= marks; m++) {
            for (int p = 0; p < 6; p++) {
                all.addAll(each("afterMend " + m + " " + p, 0, 4));
            }
        }
        all.addAll(List.of("ring", "frames", "isSound", "digest"));
        if (isBare) {
            all.removeIf(text -> text.matches("house 1[23]|ofWork \\d+ [56]|ring|digest"));
        }
        return all;
    }

    /** Ways to go on, so that what can not be asked is seen, too. */
    private static List<List<Call>> waysOn(Pagehouse x, boolean isBare) {
        int works = x.house(4);
        List<List<Call>> ways = new ArrayList<>();
        ways.add(List.of());
        ways.add(calls(List.of("crash", "mend 999 false")));
        ways.add(calls(List.of("crash", "mend 2 true")));
        ways.add(calls(List.of("mark", "force 99", "crash", "mend 999 true")));
        List<String> texts = new ArrayList<>(List.of("begin", "cut", "copy", "mark", "force 99", "group 1", "takeOver",
            "follow 99"));
        for (int p = 0; p < 6; p++) {
            texts.addAll(List.of("pin " + p, "flush " + p, "restore " + p));
        }
        for (int w = 0; w < works; w++) {
            texts.addAll(List.of("roll " + w, "end " + w, "back " + w + " 0", "back " + w + " 1", "point " + w,
                "write " + w + " 5 0 1"));
        }
        if (!isBare) {
            texts.add("breakRing");
        }
        for (String text : texts) {
            ways.add(calls(List.of(text)));
        }
        return ways;
    }

    private static List<Call> joined(List<Call> first, List<Call> second) {
        List<Call> both = new ArrayList<>(first);
        both.addAll(second);
        return both;
    }

    /** What questions answer behind some calls, each object being asked so much that it serves no more than 512 calls. */
    static List<String> answers(List<Call> calls, List<String> questions) {
        int most = Math.max(1, MOST_CALLS - calls.size());
        List<String> told = new ArrayList<>();
        Pagehouse x = null;
        for (int i = 0; i < questions.size(); i++) {
            x = i % most == 0 ? played(calls) : x;
            told.add(Call.of(questions.get(i)).on(x));
        }
        return told;
    }

    /** The first difference that some calls make; null if they make none. */
    static String difference(List<Call> before, List<Call> more, boolean isBare) {
        List<Call> behind = joined(before, more);
        for (List<Call> way : waysOn(played(before), isBare)) {
            List<String> questions = questions(played(joined(before, way)), isBare);
            List<String> due = answers(joined(before, way), questions);
            List<String> got = answers(joined(behind, way), questions);
            for (int i = 0; i < questions.size(); i++) {
                if (!due.get(i).equals(got.get(i))) {
                    return "it changes " + questions.get(i) + " from " + due.get(i) + " to " + got.get(i)
                        + (way.isEmpty() ? "" : " behind " + way.get(0).text);
                }
            }
        }
        return null;
    }

    private void tell(String title, String what) {
        wrong++;
        System.out.println(title + ": " + what);
    }

    void check(boolean isRight, String what) {
        if (!isRight) {
            tell("wrong", what);
        }
    }

    /** The calls for which a row stands. */
    private static List<String> meant(String row) {
        String[] words = row.split(" +");
        switch (words[0]) {
            case "allOfHouse":
                return each("house", 0, 15);
            case "allOfPage":
                return each("ofPage " + words[1], 0, 10);
            case "allOfWork":
                return each("ofWork " + words[1], 0, 7);
            case "allOfRecord":
                return each("ofRecord " + words[1], 0, 10);
            case "wouldMends":
                return each("wouldMend", 0, 5);
            case "values":
                return each("value " + words[1] + " " + words[2], 0, 4);
            case "afterMends":
                return each("afterMend " + words[1] + " " + words[2], 0, 4);
            case "locks":
                return each("lockOf " + words[1] + " " + words[2], -1, 5);
            case "rows":
                List<String> texts = new ArrayList<>();
                for (int r = 0; r < 4; r++) {
                    texts.add("value " + words[1] + " " + r + " " + words[2]);
                }
                return texts;
            default:
                return List.of(row);
        }
    }

    /** A run on a new object; the title is the sentence of the document that it looks at. */
    void run(String title, String rows) {
        runs++;
        Pagehouse x = new Pagehouse();
        List<Call> made = new ArrayList<>();
        for (String line : rows.split("\n")) {
            String row = line.replaceAll("#.*", "").trim();
            if (!row.isEmpty()) {
                step(title, x, made, row);
            }
        }
        if (made.size() > MOST_CALLS) {
            tell(title, "this test makes " + made.size() + " calls: what is behind the 512th is free");
        }
    }

    private void step(String title, Pagehouse x, List<Call> made, String row) {
        String left = row.substring(0, row.lastIndexOf('=')).trim();
        String due = row.substring(row.lastIndexOf('=') + 1).trim();
        boolean isQuiet = left.startsWith("! ") || left.startsWith("? ");
        List<Call> calls = calls(meant(isQuiet ? left.substring(2) : left));
        List<String> dues = due.contains(" ") ? Arrays.asList(due.split(" +")) : List.of(due);
        if (left.startsWith("frames") || left.startsWith("ring")) {
            dues = List.of(due);
        } else if (dues.size() != 1 && dues.size() != calls.size()) {
            throw new AssertionError(title + ": " + row);
        }
        for (int i = 0; i < calls.size(); i++) {
            Call call = calls.get(i);
            String got = call.on(x);
            String right = dues.get(i % dues.size());
            if (!got.equals(right)) {
                tell(title, "call " + made.size() + ": " + call.text + " answered " + got + ", due is " + right);
            }
            String difference = isQuiet ? difference(made, List.of(call), left.startsWith("? ")) : null;
            if (difference != null) {
                tell(title, "call " + made.size() + ": " + call.text + ": " + difference);
            }
            made.add(call);
        }
    }

    /** Tells how it went, and ends with exit code 1 if something was wrong. */
    void finish(String what) {
        System.out.println(what + ": " + runs + " runs, " + wrong + " wrong");
        if (wrong != 0) {
            System.exit(1);
        }
    }
}
