import com.sun.management.ThreadMXBean;
import java.lang.management.ManagementFactory;
import java.lang.reflect.InvocationTargetException;
import java.lang.reflect.Method;
import java.lang.reflect.Modifier;
import java.util.ArrayList;
import java.util.Comparator;
import java.util.List;
import java.util.Random;
import java.util.Set;

/** Long runs: they stay in their room, end soon, and the machine itself never throws, also behind call 512. */
public final class RoomTest {
    // The room holds 7.3 million fields and elements; all runs stay far below at eight bytes for each.
    private static final long MOST_BYTES = 4_000_000;
    private static final Set<Class<?>> THROWN = Set.of(IndexOutOfBoundsException.class, IllegalArgumentException.class,
        IllegalStateException.class);
    private static int wrong = 0;

    private RoomTest() {
    }

    private static void check(boolean isRight, String what) {
        if (!isRight) {
            wrong++;
            System.out.println("wrong: " + what);
        }
    }

    private interface Use {
        void of(Pagehouse x);
    }

    private static void room(String what, Use use) {
        ThreadMXBean bean = (ThreadMXBean) ManagementFactory.getThreadMXBean();
        long id = Thread.currentThread().getId();
        use.of(new Pagehouse());
        long before = bean.getThreadAllocatedBytes(id);
        use.of(new Pagehouse());
        long bytes = bean.getThreadAllocatedBytes(id) - before;
        System.out.println(what + ": " + bytes + " bytes");
        check(bytes < MOST_BYTES, what + " takes too much room");
    }

    private static void runs() {
        room("begins and ends", x -> {
            for (int i = 0; i < 256; i++) {
                x.begin();
                x.end(i);
            }
        });
        room("begins and crashes", x -> {
            for (int i = 0; i < 170; i++) {
                x.begin();
                x.crash();
                x.mend(999, true);
            }
        });
        room("writes and digests", x -> {
            x.begin();
            for (int i = 0; i < 255; i++) {
                x.write(0, i % 6, i % 4, i);
                x.digest();
            }
        });
        room("marks and digests", x -> {
            for (int i = 0; i < 256; i++) {
                x.mark();
                x.digest();
            }
        });
        room("points", x -> {
            x.begin();
            for (int i = 0; i < 511; i++) {
                x.point(0);
            }
        });
        room("rings", x -> {
            for (int i = 0; i < 4; i++) {
                x.begin();
                x.write(i, i, 0, 1);
            }
            for (int i = 0; i < 4; i++) {
                x.write(i, (i + 1) % 4, 0, 1);
            }
            for (int i = 0; i < 500; i++) {
                check(x.ring().equals("0 1 2 3"), "ring");
            }
        });
    }

    /** The longest log: 509 CHANGES, and a BACK for each. */
    private static void longestLog() {
        Pagehouse x = new Pagehouse();
        x.begin();
        for (int i = 0; i < 509; i++) {
            x.write(0, i % 6, i / 6 % 4, i);
        }
        check(x.roll(0) == 509, "all CHANGES are undone");
        check(x.house(0) == 1020, "the log holds all records");
        check(x.ofRecord(1020, 0) == 4, "GONE is the last one");
    }

    /** Far behind the 512th call answers are free, but no call may fail by itself. */
    private static void beyond(long seed) throws IllegalAccessException {
        List<Method> face = new ArrayList<>();
        for (Method m : Pagehouse.class.getDeclaredMethods()) {
            if (Modifier.isPublic(m.getModifiers())) {
                face.add(m);
            }
        }
        face.sort(Comparator.comparing(Method::getName));
        Random random = new Random(seed);
        Pagehouse x = new Pagehouse();
        for (int i = 0; i < 6000; i++) {
            Method m = face.get(random.nextInt(face.size()));
            Object[] args = new Object[m.getParameterCount()];
            for (int k = 0; k < args.length; k++) {
                boolean isWork = k == 0 && m.getName().matches("read|write|ticket|point|back|ofWork|lock|lockOf");
                args[k] = m.getParameterTypes()[k] == boolean.class ? (Object) random.nextBoolean()
                    : (Object) (isWork ? x.house(4) - 1 - random.nextInt(4) : random.nextInt(7) - 1);
            }
            try {
                m.invoke(x, args);
            } catch (InvocationTargetException e) {
                Throwable t = e.getCause();
                check(THROWN.contains(t.getClass()) && t.getStackTrace()[0].getClassName().equals("Pagehouse"),
                    "seed " + seed + " call " + i + " " + m.getName() + " throws " + t);
            }
        }
    }

    private static void manyWrites() {
        Pagehouse x = new Pagehouse();
        x.begin();
        x.point(0);
        for (int i = 0; i < 3000; i++) {
            x.write(0, i % 6, i % 4, i % 1000);
            x.point(0);
            x.ticket(0, i % 6);
            x.mark();
        }
        x.back(0, 0);
        x.force(99);
        x.crash();
        x.mend(999, true);
        x.digest();
    }

    public static void main(String[] args) throws IllegalAccessException {
        runs();
        longestLog();
        manyWrites();
        for (long seed = 0; seed < 60; seed++) {
            beyond(seed);
        }
        System.out.println(wrong == 0 ? "all runs stay in their room" : wrong + " wrong");
        if (wrong != 0) {
            System.exit(1);
        }
    }
}
