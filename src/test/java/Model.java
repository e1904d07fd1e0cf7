import java.io.ByteArrayInputStream;
import java.io.ByteArrayOutputStream;
import java.io.IOException;
import java.io.ObjectInputStream;
import java.io.ObjectOutputStream;
import java.io.Serializable;
import java.util.ArrayList;
import java.util.List;
import java.util.Map;
import java.util.TreeMap;
import java.util.TreeSet;

/**
 * A slow second reading of the document, to compare Pagehouse with. What can be derived is derived anew at each
 * question, and what mending would do is told by mending a clone.
 */
public final class Model implements Serializable {
    private static final long serialVersionUID = 1;

    private static final class Rec implements Serializable {
        private static final long serialVersionUID = 1;
        String kind;
        int no;
        int work = -1;
        int page = -1;
        int row = -1;
        int old = -1;
        int neu = -1;
        int prev = 0;
        int next = -1;
        int undoes = 0;
        TreeMap<Integer, Integer> works = null;
        TreeMap<Integer, Integer> froms = null;
    }

    private static final class Leaf implements Serializable {
        private static final long serialVersionUID = 1;
        int number = 0;
        int ticket = 0;
        int[] v = new int[4];

        Leaf twin() {
            Leaf l = new Leaf();
            l.number = number;
            l.ticket = ticket;
            l.v = v.clone();
            return l;
        }

        int total() {
            return number + ticket + v[0] + 2 * v[1] + 3 * v[2] + 4 * v[3];
        }

        void apply(Rec r) {
            if (r.kind.equals("TICKET")) {
                ticket = r.neu;
            } else {
                v[r.row] = r.neu;
            }
            number = r.no;
        }
    }

    private static final class Frame implements Serializable {
        private static final long serialVersionUID = 1;
        int page;
        Leaf leaf;
        int pins = 0;
        int from = 0;
        long used = 0;
    }

    private static final class Hand implements Serializable {
        private static final long serialVersionUID = 1;
        boolean alive = true;
        List<Integer> points = new ArrayList<>();
        TreeMap<String, Integer> locks = new TreeMap<>();
        String[] asked = null;
    }

    private static final class TooManySteps extends RuntimeException {
        private static final long serialVersionUID = 1;
    }

    private static final List<String> KINDS = List.of("BEGIN", "CHANGE", "BACK", "END", "GONE", "MARK", "TICKET");

    private final List<Rec> log = new ArrayList<>();
    private int safe = 0;
    private int kept = 1;
    private final Leaf[] safes = leaves();
    private final int[] sums = new int[6];
    private final Leaf[] copies = leaves();
    private final Leaf[] mirror = leaves();
    private final List<Frame> frames = new ArrayList<>();
    private final List<Hand> hands = new ArrayList<>();
    private long clock = 0;
    private int group = 1;
    private boolean down = false;
    private int followed = 0;
    private int steps = 0;
    private int crashes = 0;
    private int told6 = 0;
    private int told578 = 0;
    private int refused = 0;
    // what the last mending did
    private int looked;
    private int redone;
    private int backsPut;
    private int gonePut;
    private int smallestFrom;

    private static Leaf[] leaves() {
        Leaf[] all = new Leaf[6];
        for (int p = 0; p < 6; p++) {
            all[p] = new Leaf();
        }
        return all;
    }

    private Model twin() {
        try {
            ByteArrayOutputStream bytes = new ByteArrayOutputStream();
            try (ObjectOutputStream out = new ObjectOutputStream(bytes)) {
                out.writeObject(this);
            }
            try (ObjectInputStream in = new ObjectInputStream(new ByteArrayInputStream(bytes.toByteArray()))) {
                return (Model) in.readObject();
            }
        } catch (IOException | ClassNotFoundException e) {
            throw new AssertionError(e);
        }
    }

    // ---- the log

    private Rec rec(int no) {
        return log.get(no - 1);
    }

    private List<Rec> recordsOf(int work) {
        List<Rec> found = new ArrayList<>();
        for (Rec r : log) {
            if (r.work == work) {
                found.add(r);
            }
        }
        return found;
    }

    private Rec recordOf(int work, String kind) {
        for (Rec r : recordsOf(work)) {
            if (r.kind.equals(kind)) {
                return r;
            }
        }
        return null;
    }

    private int lastOf(int work) {
        List<Rec> all = recordsOf(work);
        return all.isEmpty() ? 0 : all.get(all.size() - 1).no;
    }

    private Rec append(String kind, int work) {
        Rec r = new Rec();
        r.kind = kind;
        r.work = work;
        r.no = log.size() + 1;
        r.prev = work < 0 ? 0 : lastOf(work);
        log.add(r);
        return r;
    }

    private Rec appendOn(String kind, int work, int page, int row, int old, int neu) {
        Frame f = gotten(page);
        Rec r = append(kind, work);
        r.page = page;
        r.row = row;
        r.old = old;
        r.neu = neu;
        doTo(f, r);
        return r;
    }

    private void doTo(Frame f, Rec r) {
        f.leaf.apply(r);
        f.from = f.from == 0 ? r.no : f.from;
    }

    private void safeUpTo(int no) {
        safe = Math.max(safe, no);
    }

    private boolean undone(Rec change) {
        for (Rec r : log) {
            if (r.kind.equals("BACK") && r.undoes == change.no) {
                return true;
            }
        }
        return false;
    }

    private int changesLeft(int work) {
        int n = 0;
        for (Rec r : recordsOf(work)) {
            if (r.kind.equals("CHANGE") && r.no >= kept && !undone(r)) {
                n++;
            }
        }
        return n;
    }

    private void appendBack(Rec u) {
        Rec b = appendOn("BACK", u.work, u.page, u.row, u.neu, u.old);
        b.next = u.prev;
        b.undoes = u.no;
    }

    private static int onward(Rec u) {
        return u.kind.equals("BACK") ? u.next : u.prev;
    }

    private List<Rec> toUndo(int work, int down) {
        List<Rec> changes = new ArrayList<>();
        int u = lastOf(work);
        while (u > down) {
            if (rec(u).kind.equals("CHANGE")) {
                changes.add(rec(u));
            }
            u = onward(rec(u));
        }
        return changes;
    }

    private int state(int work) {
        Rec end = recordOf(work, "END");
        if (end != null) {
            return end.no <= safe ? 2 : 1;
        }
        if (hands.get(work).alive) {
            return 0;
        }
        return recordOf(work, "GONE") != null || recordOf(work, "BEGIN") == null ? 3 : 4;
    }

    private TreeSet<Integer> worksIn(int state) {
        TreeSet<Integer> found = new TreeSet<>();
        for (int w = 0; w < hands.size(); w++) {
            if (state(w) == state) {
                found.add(w);
            }
        }
        return found;
    }

    private List<Rec> marks(boolean onlySafe) {
        List<Rec> found = new ArrayList<>();
        for (Rec r : log) {
            if (r.kind.equals("MARK") && r.no >= kept && (!onlySafe || r.no <= safe)) {
                found.add(r);
            }
        }
        return found;
    }

    private void lookAtGroup() {
        if (worksIn(1).size() >= group) {
            safeUpTo(log.size());
        }
    }

    // ---- frames

    private boolean torn(int page) {
        return sums[page] != safes[page].total();
    }

    private Frame frameOf(int page) {
        for (Frame f : frames) {
            if (f.page == page) {
                return f;
            }
        }
        return null;
    }

    private Leaf present(int page) {
        return frameOf(page) != null ? frameOf(page).leaf : safes[page];
    }

    private boolean allPinned() {
        int pinned = 0;
        for (Frame f : frames) {
            pinned += f.pins > 0 ? 1 : 0;
        }
        return pinned == 3;
    }

    private int whyNot(Iterable<Integer> pages) {
        for (int p : pages) {
            if (frameOf(p) == null && torn(p)) {
                return -5;
            }
        }
        for (int p : pages) {
            if (frameOf(p) == null && allPinned()) {
                return -7;
            }
        }
        return 0;
    }

    private int whyNotUndo(int work, int down) {
        TreeSet<Integer> pages = new TreeSet<>();
        for (Rec r : toUndo(work, down)) {
            pages.add(r.page);
        }
        return whyNot(pages);
    }

    private int tell578(int n) {
        told578++;
        return n;
    }

    private Frame gotten(int page) {
        Frame f = frameOf(page);
        if (f == null) {
            if (frames.size() == 3) {
                Frame oldest = null;
                for (Frame g : frames) {
                    if (g.pins == 0 && (oldest == null || g.used < oldest.used)) {
                        oldest = g;
                    }
                }
                if (oldest.from != 0 || torn(oldest.page)) {
                    written(oldest);
                }
                frames.remove(oldest);
            }
            f = new Frame();
            f.page = page;
            f.leaf = safes[page].twin();
            frames.add(f);
        }
        f.used = ++clock;
        return f;
    }

    private void written(Frame f) {
        safeUpTo(f.leaf.number);
        safes[f.page] = f.leaf.twin();
        sums[f.page] = safes[f.page].total();
        f.from = 0;
    }

    // ---- locks

    private static boolean pageLocksGo(int a, int b) {
        if (a == 0 || b == 0) {
            return true;
        }
        switch (a) {
            case 1:
                return b == 1 || b == 2 || b == 3;
            case 2:
                return b == 1 || b == 2;
            case 3:
                return b == 1 || b == 3;
            default:
                return false;
        }
    }

    private static boolean rowLocksGo(int a, int b) {
        return a == 0 || b == 0 || a == 1 && b == 1;
    }

    private static boolean locksGo(String key, int a, int b) {
        return key.contains(":") ? rowLocksGo(a, b) : pageLocksGo(a, b);
    }

    private int lockAt(int work, String key) {
        return hands.get(work).locks.getOrDefault(key, 0);
    }

    private static String pageKey(int page) {
        return "" + page;
    }

    private static String rowKey(int page, int row) {
        return page + ":" + row;
    }

    /** The locks that a work would get for what it asks. */
    private Map<String, Integer> wanted(int work, String[] asked) {
        Map<String, Integer> want = new TreeMap<>();
        String pk = asked[1];
        String rk = asked[1] + ":" + asked[2];
        int onPage = lockAt(work, pk);
        int onRow = asked[2] == null ? 0 : lockAt(work, rk);
        switch (asked[0]) {
            case "read":
                if (onPage != 3 && onPage != 4 && onRow == 0) {
                    if (onPage == 0) {
                        want.put(pk, 1);
                    }
                    want.put(rk, 1);
                }
                break;
            case "write":
                if (onPage != 4 && onRow != 2) {
                    int then = onPage == 3 ? 4 : 2;
                    if (then != onPage) {
                        want.put(pk, then);
                    }
                    if (then != 4) {
                        want.put(rk, 2);
                    }
                }
                break;
            case "shared":
                if (onPage == 0 || onPage == 1) {
                    want.put(pk, 3);
                } else if (onPage == 2) {
                    want.put(pk, 4);
                }
                break;
            default:
                if (onPage != 4) {
                    want.put(pk, 4);
                }
        }
        return want;
    }

    private TreeSet<Integer> inTheWay(int work, String[] asked) {
        TreeSet<Integer> others = new TreeSet<>();
        for (Map.Entry<String, Integer> lock : wanted(work, asked).entrySet()) {
            for (int o = 0; o < hands.size(); o++) {
                if (o != work && !locksGo(lock.getKey(), lock.getValue(), lockAt(o, lock.getKey()))) {
                    others.add(o);
                }
            }
        }
        return others;
    }

    private TreeSet<Integer> waitsFor(int work) {
        String[] asked = hands.get(work).asked;
        return asked == null ? new TreeSet<>() : inTheWay(work, asked);
    }

    private boolean isInTheWay(int work, String[] asked) {
        if (!inTheWay(work, asked).isEmpty()) {
            hands.get(work).asked = asked;
            told6++;
            return true;
        }
        hands.get(work).asked = null;
        return false;
    }

    private int entered(int work, String what, int page, int row) {
        String[] asked = {what, pageKey(page), "" + row};
        if (isInTheWay(work, asked)) {
            return -6;
        }
        int why = whyNot(List.of(page));
        if (why != 0) {
            return tell578(why);
        }
        hands.get(work).locks.putAll(wanted(work, asked));
        gotten(page);
        return 0;
    }

    private TreeSet<Integer> comesTo(int work) {
        TreeSet<Integer> seen = new TreeSet<>();
        List<Integer> todo = new ArrayList<>(waitsFor(work));
        while (!todo.isEmpty()) {
            int w = todo.remove(0);
            if (seen.add(w)) {
                todo.addAll(waitsFor(w));
            }
        }
        return seen;
    }

    private TreeSet<Integer> ringWorks() {
        TreeSet<Integer> in = new TreeSet<>();
        for (int w = 0; w < hands.size(); w++) {
            if (comesTo(w).contains(w)) {
                in.add(w);
                for (int o : comesTo(w)) {
                    if (comesTo(o).contains(w)) {
                        in.add(o);
                    }
                }
                return in;
            }
        }
        return in;
    }

    private void letsGo(int work) {
        Hand h = hands.get(work);
        h.alive = false;
        h.locks.clear();
        h.points.clear();
        h.asked = null;
    }

    // ---- needs

    private static void index(boolean isThere) {
        if (!isThere) {
            throw new IndexOutOfBoundsException();
        }
    }

    private static void argument(boolean isRight) {
        if (!isRight) {
            throw new IllegalArgumentException();
        }
    }

    private static void fits(boolean isSo) {
        if (!isSo) {
            throw new IllegalStateException();
        }
    }

    private boolean isWork(int w) {
        return 0 <= w && w < hands.size();
    }

    private static boolean isPage(int p) {
        return 0 <= p && p <= 5;
    }

    private static boolean isRow(int r) {
        return 0 <= r && r <= 3;
    }

    // ---- the face

    public int begin() {
        fits(!down && worksIn(0).size() < 4);
        hands.add(new Hand());
        append("BEGIN", hands.size() - 1);
        return hands.size() - 1;
    }

    public int read(int work, int page, int row) {
        index(isWork(work) && isPage(page) && isRow(row));
        fits(!down && state(work) == 0);
        int n = entered(work, "read", page, row);
        return n != 0 ? n : present(page).v[row];
    }

    public int write(int work, int page, int row, int value) {
        index(isWork(work) && isPage(page) && isRow(row));
        argument(0 <= value && value <= 999);
        fits(!down && state(work) == 0);
        int n = entered(work, "write", page, row);
        if (n != 0) {
            return n;
        }
        int before = present(page).v[row];
        appendOn("CHANGE", work, page, row, before, value);
        return before;
    }

    public int lock(int work, int page, boolean isSole) {
        index(isWork(work) && isPage(page));
        fits(!down && state(work) == 0);
        String[] asked = {isSole ? "sole" : "shared", pageKey(page), null};
        if (isInTheWay(work, asked)) {
            return -6;
        }
        hands.get(work).locks.putAll(wanted(work, asked));
        return lockAt(work, pageKey(page));
    }

    public int ticket(int work, int page) {
        index(isWork(work) && isPage(page));
        fits(!down && state(work) == 0);
        int why = whyNot(List.of(page));
        if (why != 0) {
            return tell578(why);
        }
        int t = gotten(page).leaf.ticket;
        appendOn("TICKET", work, page, -1, t, t + 1);
        return t + 1;
    }

    public int point(int work) {
        index(isWork(work));
        fits(!down && state(work) == 0);
        hands.get(work).points.add(lastOf(work));
        return hands.get(work).points.size() - 1;
    }

    public int back(int work, int point) {
        index(isWork(work) && 0 <= point && point < hands.get(work).points.size());
        fits(!down && state(work) == 0);
        int to = hands.get(work).points.get(point);
        int why = whyNotUndo(work, to);
        if (why != 0) {
            return tell578(why);
        }
        List<Rec> changes = toUndo(work, to);
        changes.forEach(this::appendBack);
        while (hands.get(work).points.size() > point + 1) {
            hands.get(work).points.remove(point + 1);
        }
        return changes.size();
    }

    public int roll(int work) {
        index(isWork(work));
        fits(!down && state(work) == 0);
        int why = whyNotUndo(work, 0);
        return why != 0 ? tell578(why) : rolled(work);
    }

    private int rolled(int work) {
        List<Rec> changes = toUndo(work, 0);
        changes.forEach(this::appendBack);
        append("GONE", work);
        letsGo(work);
        return changes.size();
    }

    public int end(int work) {
        index(isWork(work));
        fits(!down && state(work) == 0);
        append("END", work);
        letsGo(work);
        lookAtGroup();
        return state(work) == 2 ? 1 : 0;
    }

    public int group(int many) {
        argument(1 <= many && many <= 4);
        fits(!down);
        int before = group;
        group = many;
        lookAtGroup();
        return before;
    }

    public int breakRing() {
        fits(!down);
        int victim = -1;
        for (int w : ringWorks()) {
            if (victim == -1 || changesLeft(w) <= changesLeft(victim)) {
                victim = w;
            }
        }
        if (victim == -1) {
            return -1;
        }
        int why = whyNotUndo(victim, 0);
        if (why != 0) {
            return tell578(why);
        }
        rolled(victim);
        return victim;
    }

    public int pin(int page) {
        index(isPage(page));
        fits(!down);
        int why = whyNot(List.of(page));
        return why != 0 ? tell578(why) : ++gotten(page).pins;
    }

    public int unpin(int page) {
        index(isPage(page));
        fits(!down && frameOf(page) != null && frameOf(page).pins > 0);
        return --frameOf(page).pins;
    }

    public int flush(int page) {
        index(isPage(page));
        fits(!down);
        Frame f = frameOf(page);
        if (f == null) {
            return 0;
        }
        int was = f.from != 0 ? 1 : 0;
        written(f);
        return was;
    }

    public int force(int many) {
        argument(1 <= many && many <= 99);
        fits(!down);
        safeUpTo(Math.min(log.size(), safe + many));
        return safe;
    }

    public int mark() {
        fits(!down);
        Rec m = new Rec();
        m.works = new TreeMap<>();
        m.froms = new TreeMap<>();
        for (int w : worksIn(0)) {
            m.works.put(w, lastOf(w));
        }
        for (Frame f : frames) {
            if (f.from != 0) {
                m.froms.put(f.page, f.from);
            }
        }
        m.kind = "MARK";
        m.no = log.size() + 1;
        log.add(m);
        return m.no;
    }

    public int cut() {
        fits(!down);
        TreeSet<Integer> all = new TreeSet<>();
        all.add(safe + 1);
        for (Frame f : frames) {
            if (f.from != 0) {
                all.add(f.from);
            }
        }
        for (int w = 0; w < hands.size(); w++) {
            Rec begin = recordOf(w, "BEGIN");
            Rec end = recordOf(w, "END");
            Rec gone = recordOf(w, "GONE");
            if (begin != null && (state(w) == 0 || end != null && end.no > safe || gone != null && gone.no > safe)) {
                all.add(begin.no);
            }
        }
        for (int p = 0; p < 6; p++) {
            for (Rec r : log) {
                if (r.no >= kept && r.page == p && r.no > copies[p].number) {
                    all.add(r.no);
                    break;
                }
            }
        }
        all.add(followed + 1);
        int dropped = all.first() - kept;
        kept = all.first();
        return dropped;
    }

    public int crash() {
        int lost = log.size() - safe;
        while (log.size() > safe) {
            log.remove(log.size() - 1);
        }
        frames.clear();
        for (int w = 0; w < hands.size(); w++) {
            letsGo(w);
        }
        down = true;
        crashes++;
        return lost;
    }

    public int mend(int most, boolean isForced) {
        argument(0 <= most && most <= 999);
        fits(down);
        List<Rec> marks = marks(true);
        int before = steps;
        try {
            mended(marks.isEmpty() ? null : marks.get(marks.size() - 1), most, isForced);
        } catch (TooManySteps e) {
            crash();
        }
        return steps - before;
    }

    private void step(int limit) {
        if (steps == limit) {
            throw new TooManySteps();
        }
        steps++;
    }

    private void mended(Rec mark, int most, boolean isForced) {
        int limit = steps + most;
        looked = 0;
        redone = 0;
        backsPut = 0;
        gonePut = 0;
        for (int p = 0; p < 6; p++) {
            if (torn(p)) {
                restored(p);
            }
        }
        TreeMap<Integer, Integer> works = mark == null ? new TreeMap<>() : new TreeMap<>(mark.works);
        TreeMap<Integer, Integer> froms = mark == null ? new TreeMap<>() : new TreeMap<>(mark.froms);
        List<Rec> before = new ArrayList<>(log);
        for (Rec r : before) {
            if (r.no < kept || mark != null && r.no <= mark.no) {
                continue;
            }
            looked++;
            if (r.kind.equals("END") || r.kind.equals("GONE")) {
                works.remove(r.work);
            } else if (!r.kind.equals("MARK")) {
                works.put(r.work, r.no);
            }
            if (r.page >= 0) {
                froms.putIfAbsent(r.page, r.no);
            }
        }
        smallestFrom = froms.isEmpty() ? 0 : new TreeSet<>(froms.values()).first();
        for (Rec r : before) {
            if (r.no >= kept && r.no >= smallestFrom && r.page >= 0 && froms.getOrDefault(r.page, 9999) <= r.no) {
                Frame f = gotten(r.page);
                if (f.leaf.number < r.no) {
                    step(limit);
                    doTo(f, r);
                    redone++;
                    if (isForced) {
                        safeUpTo(log.size());
                    }
                }
            }
        }
        while (!works.isEmpty()) {
            int w = works.firstKey();
            for (int o : works.keySet()) {
                w = works.get(o) > works.get(w) ? o : w;
            }
            Rec u = rec(works.get(w));
            if (u.kind.equals("CHANGE")) {
                step(limit);
                appendBack(u);
                backsPut++;
                if (isForced) {
                    safeUpTo(log.size());
                }
            }
            works.put(w, onward(u));
            if (works.get(w) == 0) {
                append("GONE", w);
                works.remove(w);
                gonePut++;
            }
        }
        safeUpTo(log.size());
        down = false;
    }

    public int spoil(int page, int row) {
        index(isPage(page) && isRow(row));
        safes[page].v[row] = (safes[page].v[row] + 1) % 1000;
        return torn(page) ? 1 : 0;
    }

    public int copy() {
        int torn = 0;
        for (int p = 0; p < 6; p++) {
            if (torn(p)) {
                torn++;
            } else {
                copies[p] = safes[p].twin();
            }
        }
        return torn;
    }

    private List<Rec> toRestore(int page) {
        List<Rec> found = new ArrayList<>();
        for (Rec r : log) {
            if (r.no >= kept && r.no <= safe && r.page == page && r.no > copies[page].number) {
                found.add(r);
            }
        }
        return found;
    }

    private int restored(int page) {
        List<Rec> done = toRestore(page);
        safes[page] = copies[page].twin();
        done.forEach(r -> safes[page].apply(r));
        sums[page] = safes[page].total();
        return done.size();
    }

    public int restore(int page) {
        index(isPage(page));
        return frameOf(page) != null ? tell578(-8) : restored(page);
    }

    public int follow(int many) {
        argument(1 <= many && many <= 99);
        for (int i = 0; i < many && followed < safe; i++) {
            followed++;
            Rec r = rec(followed);
            if (r.page >= 0) {
                mirror[r.page].apply(r);
            }
        }
        return followed;
    }

    public int takeOver() {
        crash();
        while (followed < safe) {
            follow(99);
        }
        int others = 0;
        for (int p = 0; p < 6; p++) {
            others += torn(p) || safes[p].number != mirror[p].number ? 1 : 0;
            safes[p] = mirror[p].twin();
            sums[p] = safes[p].total();
        }
        return others;
    }

    public int knock() {
        return ++refused;
    }

    public int ofPage(int page, int what) {
        index(isPage(page));
        argument(0 <= what && what <= 9);
        Frame f = frameOf(page);
        int[] all = {f != null ? 1 : 0, f != null && f.from != 0 ? 1 : 0, present(page).number, f != null ? f.from : 0,
            f != null ? f.pins : 0, safes[page].number, torn(page) ? 1 : 0, present(page).ticket,
            copies[page].number, mirror[page].number};
        return all[what];
    }

    public int value(int page, int row, int which) {
        index(isPage(page) && isRow(row));
        argument(0 <= which && which <= 3);
        Leaf[] all = {present(page), safes[page], copies[page], mirror[page]};
        return all[which].v[row];
    }

    public int ofWork(int work, int what) {
        index(isWork(work));
        argument(0 <= what && what <= 6);
        Hand h = hands.get(work);
        switch (what) {
            case 0:
                return state(work);
            case 1:
                return lastOf(work) >= kept ? lastOf(work) : 0;
            case 2:
                return changesLeft(work);
            case 3:
                return h.points.size();
            case 4:
                return h.locks.size();
            case 5:
                return h.asked != null ? 1 : 0;
            default:
                return waitsFor(work).isEmpty() ? -1 : waitsFor(work).first();
        }
    }

    public int ofRecord(int record, int what) {
        index(kept <= record && 1 <= record && record <= log.size());
        argument(0 <= what && what <= 9);
        Rec r = rec(record);
        int[] all = {KINDS.indexOf(r.kind), r.work, r.page, r.row, r.old, r.neu, r.prev, r.next,
            r.works == null ? -1 : r.works.size(), r.froms == null ? -1 : r.froms.size()};
        return all[what];
    }

    public int lockOf(int work, int page, int row) {
        index(isWork(work) && isPage(page) && (row == -1 || isRow(row)));
        return lockAt(work, row == -1 ? pageKey(page) : rowKey(page, row));
    }

    public String ring() {
        StringBuilder text = new StringBuilder();
        for (int w : ringWorks()) {
            text.append(text.length() == 0 ? "" : " ").append(w);
        }
        return text.length() == 0 ? "-" : text.toString();
    }

    public String frames() {
        List<Frame> sorted = new ArrayList<>(frames);
        sorted.sort((a, b) -> Long.compare(a.used, b.used));
        List<String> texts = new ArrayList<>();
        for (Frame f : sorted) {
            texts.add(f.page + (f.from != 0 ? "*" : "") + (f.pins > 0 ? "+" : ""));
        }
        return texts.isEmpty() ? "-" : String.join(" ", texts);
    }

    public int house(int what) {
        argument(0 <= what && what <= 14);
        switch (what) {
            case 0:
                return log.size();
            case 1:
                return safe;
            case 2:
                return kept;
            case 3:
                return marks(false).size();
            case 4:
                return hands.size();
            case 5:
                return worksIn(0).size();
            case 6:
                return worksIn(1).size();
            default:
                return new int[] {group, down ? 1 : 0, followed, steps, crashes, told6, told578, refused}[what - 7];
        }
    }

    public int owes(int page, int row) {
        index(isPage(page) && isRow(row));
        int found = -1;
        for (Rec r : log) {
            boolean isChange = r.kind.equals("CHANGE") || r.kind.equals("BACK");
            if (r.no >= kept && r.no <= present(page).number && isChange && r.page == page && r.row == row) {
                found = r.no;
            }
        }
        return found;
    }

    private Model mendedTwin(Rec mark) {
        Model m = twin();
        m.crash();
        m.mended(mark, 1000000, false);
        return m;
    }

    public int wouldMend(int what) {
        argument(0 <= what && what <= 4);
        List<Rec> marks = marks(true);
        Model m = mendedTwin(marks.isEmpty() ? null : marks.get(marks.size() - 1));
        return new int[] {m.looked, m.redone, m.backsPut, m.gonePut, m.smallestFrom}[what];
    }

    public int afterMend(int mark, int page, int row) {
        List<Rec> marks = marks(true);
        index(0 <= mark && mark <= marks.size() && isPage(page) && isRow(row));
        return mendedTwin(mark == 0 ? null : marks.get(mark - 1)).present(page).v[row];
    }

    public boolean isSound() {
        for (int p = 0; p < 6; p++) {
            List<Rec> more = toRestore(p);
            int restored = more.isEmpty() ? copies[p].number : more.get(more.size() - 1).no;
            if (!torn(p) && (safes[p].number > safe || restored < safes[p].number)) {
                return false;
            }
        }
        for (int a = 0; a < hands.size(); a++) {
            for (int b = 0; b < a; b++) {
                for (String key : hands.get(a).locks.keySet()) {
                    if (!locksGo(key, lockAt(a, key), lockAt(b, key))) {
                        return false;
                    }
                }
            }
        }
        Model plain = mendedTwin(null);
        if (kept == 1) {
            for (int i = 0; i < 24; i++) {
                int due = 0;
                for (Rec r : log) {
                    if (r.page == i / 4 && r.row == i % 4 && state(r.work) == 2) {
                        due = r.neu;
                    }
                }
                if (plain.present(i / 4).v[i % 4] != due) {
                    return false;
                }
            }
        }
        List<Rec> marks = marks(true);
        for (int n = Math.max(0, marks.size() - 3); n < marks.size(); n++) {
            Model other = mendedTwin(marks.get(n));
            for (int i = 0; i < 24; i++) {
                if (plain.present(i / 4).v[i % 4] != other.present(i / 4).v[i % 4]) {
                    return false;
                }
            }
        }
        return true;
    }

    public long digest() {
        List<Long> all = new ArrayList<>();
        for (int i = 0; i <= 14; i++) {
            all.add((long) house(i));
        }
        for (int p = 0; p < 6; p++) {
            for (int i = 0; i <= 9; i++) {
                all.add((long) ofPage(p, i));
            }
            for (int r = 0; r < 4; r++) {
                for (int i = 0; i <= 3; i++) {
                    all.add((long) value(p, r, i));
                }
                all.add((long) owes(p, r));
            }
        }
        for (int w = Math.max(0, hands.size() - 6); w < hands.size(); w++) {
            for (int i = 0; i <= 6; i++) {
                all.add((long) ofWork(w, i));
            }
        }
        for (int r = Math.max(kept, log.size() - 7); r <= log.size(); r++) {
            for (int i = 0; i <= 9; i++) {
                all.add((long) ofRecord(r, i));
            }
        }
        all.add((long) ring().length());
        all.add((long) frames().length());
        List<Rec> marks = marks(true);
        Model m = mendedTwin(marks.isEmpty() ? null : marks.get(marks.size() - 1));
        for (int would : new int[] {m.looked, m.redone, m.backsPut, m.gonePut, m.smallestFrom}) {
            all.add((long) would);
        }
        all.add(isSound() ? 1L : 0L);
        long d = 6113;
        for (long v : all) {
            d = d * 31 + v;
        }
        return d;
    }
}
