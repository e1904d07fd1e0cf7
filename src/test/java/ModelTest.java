import java.lang.reflect.InvocationTargetException;
import java.lang.reflect.Method;
import java.util.ArrayList;
import java.util.HashMap;
import java.util.List;
import java.util.Map;
import java.util.Random;

/** Runs of chosen-by-number calls on Pagehouse and on the Model: every answer and exception must be the same. */
public final class ModelTest {
    private static final Map<String, Method> HOUSE = methods(Pagehouse.class);
    private static final Map<String, Method> MODEL = methods(Model.class);

    // Each profile: a call's name and its weight.
    private static final String[] PROFILES = {
        "begin 6 read 6 write 20 ticket 3 point 3 back 3 roll 2 end 4 pin 1 unpin 1 flush 2 force 3 mark 2 cut 1 crash 1"
            + " mend 6 spoil 1 copy 1 restore 1 follow 2 takeOver 0 group 1 lock 2 breakRing 1 asks 12 digest 2",
        "begin 8 read 20 write 20 lock 8 ticket 1 point 1 back 1 roll 1 end 2 breakRing 3 group 1 mend 2 crash 0"
            + " asks 20 digest 2",
        "begin 6 write 20 ticket 4 end 3 roll 2 force 5 flush 4 mark 3 crash 5 mend 14 spoil 2 restore 2 copy 1"
            + " follow 2 takeOver 1 point 2 back 2 group 2 asks 10 digest 2",
        "begin 6 write 16 end 8 force 6 flush 6 copy 6 follow 10 cut 8 mark 6 crash 2 mend 5 takeOver 1 roll 2"
            + " spoil 1 asks 10 digest 2",
        "begin 5 read 5 write 12 pin 8 unpin 6 spoil 8 restore 6 roll 2 back 3 point 3 ticket 3 flush 3 copy 2 mend 6"
            + " crash 1 end 3 breakRing 1 lock 2 force 2 asks 10 digest 2",
        "begin 10 write 14 end 12 group 5 force 2 read 3 crash 1 mend 5 mark 3 cut 2 flush 1 asks 8 digest 2",
        "wild 30 begin 5 write 10 end 3 crash 1 mend 3 asks 20 digest 1",
    };
    private static final String[] ASKS = {
        "ofPage", "value", "ofWork", "ofRecord", "lockOf", "ring", "frames", "house", "owes", "wouldMend", "afterMend",
        "isSound", "knock",
    };

    // The values are spoiled so that the SUM is right again: a page that is not torn, and not sound.
    private static final String[] UNSEEN_SPOIL = {"1 begin", "1 write 0 0 0 999", "1 end 0", "1 flush 0", "1 spoil 0 0",
        "249 spoil 0 3", "1 spoil 0 2"};

    private ModelTest() {
    }

    private static Map<String, Method> methods(Class<?> type) {
        Map<String, Method> found = new HashMap<>();
        for (Method m : type.getDeclaredMethods()) {
            if (java.lang.reflect.Modifier.isPublic(m.getModifiers())) {
                found.put(m.getName(), m);
            }
        }
        return found;
    }

    private static String answer(Method m, Object on, Object[] args) throws IllegalAccessException {
        try {
            return String.valueOf(m.invoke(on, args));
        } catch (InvocationTargetException e) {
            return "throws." + e.getCause().getClass().getSimpleName();
        }
    }

    private static int around(Random random, int least, int most) {
        return random.nextInt(40) == 0 ? (random.nextBoolean() ? least - 1 : most + 1)
            : least + random.nextInt(most - least + 1);
    }

    /** Mostly an open work, if there is one. */
    private static int work(Random random, Pagehouse x) {
        int works = x.house(4);
        int found = around(random, 0, Math.max(0, works - 1));
        for (int tries = random.nextInt(8) == 0 ? 8 : 0; tries < 8 && works > 0; tries++) {
            int w = Math.max(0, works - 1 - random.nextInt(8));
            if (x.ofWork(w, 0) == 0) {
                return w;
            }
        }
        return found;
    }

    private static int wildInt(Random random) {
        int[] some = {Integer.MIN_VALUE, Integer.MAX_VALUE, -2, -1, 0, 1, 2, 3, 4, 5, 6, 7, 9, 10, 14, 15, 99, 100, 512,
            999, 1000, 1024, 1025};
        return some[random.nextInt(some.length)];
    }

    private static Object[] arguments(String name, Random random, Pagehouse x, boolean isWild) {
        Class<?>[] types = HOUSE.get(name).getParameterTypes();
        Object[] args = new Object[types.length];
        for (int i = 0; i < types.length; i++) {
            args[i] = types[i] == boolean.class ? (Object) random.nextBoolean() : (Object) wildInt(random);
        }
        if (isWild) {
            return args;
        }
        int page = random.nextInt(3) == 0 ? around(random, 0, 5) : random.nextInt(4);
        int row = random.nextInt(3) == 0 ? around(random, 0, 3) : random.nextInt(2);
        switch (name) {
            case "read":
                return new Object[] {work(random, x), page, row};
            case "write":
                return new Object[] {work(random, x), page, row, around(random, 0, 999)};
            case "lock":
                return new Object[] {work(random, x), page, random.nextBoolean()};
            case "ticket":
                return new Object[] {work(random, x), page};
            case "point":
            case "roll":
            case "end":
                return new Object[] {work(random, x)};
            case "back":
                return new Object[] {work(random, x), random.nextInt(3)};
            case "group":
                return new Object[] {around(random, 1, 4)};
            case "pin":
            case "unpin":
            case "flush":
            case "restore":
                return new Object[] {page};
            case "force":
                return new Object[] {random.nextInt(4) == 0 ? around(random, 1, 99) : 1 + random.nextInt(4)};
            case "follow":
                return new Object[] {random.nextInt(2) == 0 ? around(random, 1, 99) : 1 + random.nextInt(4)};
            case "mend":
                return new Object[] {random.nextInt(2) == 0 ? around(random, 0, 999) : random.nextInt(6),
                    random.nextBoolean()};
            case "spoil":
            case "owes":
                return new Object[] {page, row};
            case "ofPage":
                return new Object[] {page, around(random, 0, 9)};
            case "value":
                return new Object[] {page, row, around(random, 0, 3)};
            case "ofWork":
                return new Object[] {work(random, x), around(random, 0, 6)};
            case "ofRecord":
                return new Object[] {around(random, Math.min(x.house(0), x.house(2)), Math.max(1, x.house(0))),
                    around(random, 0, 9)};
            case "lockOf":
                return new Object[] {work(random, x), page, random.nextBoolean() ? -1 : row};
            case "house":
                return new Object[] {around(random, 0, 14)};
            case "wouldMend":
                return new Object[] {around(random, 0, 4)};
            case "afterMend":
                return new Object[] {random.nextInt(4), page, row};
            default:
                return args;
        }
    }

    private static List<String> wheel(String profile) {
        String[] words = profile.split(" ");
        List<String> names = new ArrayList<>();
        for (int i = 0; i < words.length; i += 2) {
            for (int k = 0; k < Integer.parseInt(words[i + 1]); k++) {
                names.add(words[i]);
            }
        }
        return names;
    }

    /** One run; tells whether all was the same. */
    private static boolean run(long seed, int calls) throws IllegalAccessException {
        Random random = new Random(seed);
        List<String> wheel = wheel(PROFILES[(int) (seed % PROFILES.length)]);
        List<String> faces = new ArrayList<>(new java.util.TreeSet<>(HOUSE.keySet()));
        Pagehouse x = new Pagehouse();
        Model y = new Model();
        StringBuilder told = new StringBuilder();
        for (String row : seed % 10 == 3 ? UNSEEN_SPOIL : new String[0]) {
            for (int i = 0; i < Integer.parseInt(row.split(" ")[0]); i++) {
                String name = row.split(" ")[1];
                Object[] args = java.util.Arrays.stream(row.split(" ")).skip(2).map(Integer::valueOf).toArray();
                if (!answer(HOUSE.get(name), x, args).equals(answer(MODEL.get(name), y, args))) {
                    System.out.println("unseen spoil: " + row);
                    return false;
                }
            }
        }
        for (int i = 0; i < calls; i++) {
            String name = i == calls - 1 ? "digest" : wheel.get(random.nextInt(wheel.size()));
            boolean isWild = name.equals("wild");
            name = isWild ? faces.get(random.nextInt(faces.size())) : name;
            name = name.equals("asks") ? ASKS[random.nextInt(ASKS.length)] : name;
            if (x.house(8) == 1 && random.nextInt(3) == 0) {
                name = "mend";
            }
            Object[] args = arguments(name, random, x, isWild);
            String got = answer(HOUSE.get(name), x, args);
            String due = answer(MODEL.get(name), y, args);
            told.append(name).append(java.util.Arrays.toString(args)).append(" = ").append(due).append('\n');
            if (!got.equals(due)) {
                System.out.println(told + "seed " + seed + " call " + i + ": answered " + got + ", due is " + due);
                return false;
            }
        }
        return true;
    }

    public static void main(String[] args) throws IllegalAccessException {
        int runs = args.length > 0 ? Integer.parseInt(args[0]) : 420;
        long first = args.length > 1 ? Long.parseLong(args[1]) : 0;
        int longest = args.length > 2 ? Integer.parseInt(args[2]) : 200;
        for (long seed = first; seed < first + runs; seed++) {
            int calls = seed % 50 == 49 ? 512 : seed % 10 == 3 ? 60 + (int) (seed * 37 % 190) : 20 + (int) (seed * 37 % longest);
            if (!run(seed, calls)) {
                System.exit(1);
            }
        }
        System.out.println(runs + " runs are as the model tells");
    }
}
