import java.util.ArrayList;
import java.util.Arrays;

/** A house of pages that mends itself. */
public final class Pagehouse {
    private static final int NONE = -1;
    private static final int PAGES = 6;
    private static final int ROWS = 4;
    private static final int FRAMES = 3;
    private static final int MOST_OPEN = 4;
    private static final int MOST_VALUE = 999;
    private static final int MOST_STEPS = 999;
    private static final int MOST_MANY = 99;
    private static final int MOST_CALLS = 512;
    // A call puts at most one record of its own, and each of these is followed by one BACK or GONE at most.
    private static final int MOST_RECORDS = 2 * MOST_CALLS;
    // Ends loops along chains of records, which are far shorter.
    private static final int FAR = 1000000;

    private static final int IS_TORN = -5;
    private static final int IS_LOCKED = -6;
    private static final int NO_FRAME = -7;
    private static final int IN_FRAME = -8;

    private static final int BEGIN = 0;
    private static final int CHANGE = 1;
    private static final int BACK = 2;
    private static final int END = 3;
    private static final int GONE = 4;
    private static final int MARK = 5;
    private static final int TICKET = 6;

    private static final int IS_OPEN = 0;
    private static final int IS_ENDING = 1;
    private static final int IS_ENDED = 2;
    private static final int IS_GONE = 3;
    private static final int IS_LOST = 4;

    private static final int NO_ASK = 0;
    private static final int TO_READ = 1;
    private static final int TO_WRITE = 2;
    private static final int TO_SHARE = 3;
    private static final int TO_OWN = 4;

    private static final int ROW_SHARED = 1;
    private static final int ROW_SOLE = 2;
    private static final int SOME_SHARED = 1;
    private static final int SOME_SOLE = 2;
    private static final int PAGE_SHARED = 3;
    private static final int PAGE_SOLE = 4;
    // Bit b of entry a is set, if the locks a and b of two works go together (0 is no lock).
    private static final int[] PAGE_LOCKS_GO = {31, 15, 7, 11, 1};
    private static final int[] ROW_LOCKS_GO = {7, 3, 1};

    private final Log log = new Log();
    private final Page[] pages = new Page[PAGES];
    private final ArrayList<Page> framed = new ArrayList<Page>();
    private final ArrayList<Work> works = new ArrayList<Work>();
    private final ArrayList<Work> open = new ArrayList<Work>();
    private final Work nobody = new Work(NONE);
    private final Tables tables = new Tables();
    private final Rehearsal rehearsal = new Rehearsal();
    private int ending = 0;
    private int groupSize = 1;
    private boolean isDown = false;
    private int followed = 0;
    private int steps = 0;
    private int crashes = 0;
    private int blocked = 0;
    private int lacking = 0;
    private int refused = 0;

    public Pagehouse() {
        for (int p = 0; p < PAGES; p++) {
            pages[p] = new Page(p);
        }
    }

    // ---- works

    public int begin() throws IllegalStateException {
        if (isDown || open.size() >= MOST_OPEN || works.size() >= MOST_CALLS) {
            throw new IllegalStateException("down, or too many works");
        }
        Work work = new Work(works.size());
        works.add(work);
        open.add(work);
        work.first = put(BEGIN, work);
        return work.number;
    }

    public int read(int work, int page, int row) throws IndexOutOfBoundsException, IllegalStateException {
        needWork(work);
        needRow(page, row);
        int hindrance = enter(openWork(work), TO_READ, page, row);
        return hindrance != 0 ? hindrance : pages[page].present().values[row];
    }

    public int write(int work, int page, int row, int value)
            throws IndexOutOfBoundsException, IllegalArgumentException, IllegalStateException {
        needWork(work);
        needRow(page, row);
        needRange(value, 0, MOST_VALUE);
        Work writer = openWork(work);
        int hindrance = enter(writer, TO_WRITE, page, row);
        if (hindrance != 0) {
            return hindrance;
        }
        int before = pages[page].present().values[row];
        putOnPage(CHANGE, writer, page, row, before, value);
        return before;
    }

    public int lock(int work, int page, boolean isSole) throws IndexOutOfBoundsException, IllegalStateException {
        needWork(work);
        needPage(page);
        Work locker = openWork(work);
        int ask = isSole ? TO_OWN : TO_SHARE;
        if (!isLet(locker, ask, page, NONE)) {
            return IS_LOCKED;
        }
        locker.obtain(ask, page, NONE);
        return locker.pageLocks[page];
    }

    public int ticket(int work, int page) throws IndexOutOfBoundsException, IllegalStateException {
        needWork(work);
        needPage(page);
        Work drawer = openWork(work);
        int lack = lackOf(page);
        if (lack != 0) {
            return tellLack(lack);
        }
        int last = pages[page].present().ticket;
        putOnPage(TICKET, drawer, page, NONE, last, last + 1);
        return last + 1;
    }

    public int point(int work) throws IndexOutOfBoundsException, IllegalStateException {
        needWork(work);
        return openWork(work).addPoint();
    }

    public int back(int work, int point) throws IndexOutOfBoundsException, IllegalStateException {
        needWork(work);
        if (!workAt(work).hasPoint(point)) {
            throw new IndexOutOfBoundsException("no such point");
        }
        Work goer = openWork(work);
        int down = goer.pointAt(point);
        int lack = lackOfUndo(goer, down);
        if (lack != 0) {
            return tellLack(lack);
        }
        goer.pointCount = point + 1;
        return undo(goer, down);
    }

    public int roll(int work) throws IndexOutOfBoundsException, IllegalStateException {
        needWork(work);
        Work goer = openWork(work);
        int lack = lackOfUndo(goer, 0);
        if (lack != 0) {
            return tellLack(lack);
        }
        int backs = undo(goer, 0);
        close(goer, GONE, IS_GONE);
        return backs;
    }

    public int end(int work) throws IndexOutOfBoundsException, IllegalStateException {
        needWork(work);
        Work ender = openWork(work);
        close(ender, END, IS_ENDING);
        ending++;
        secureGroup();
        return ender.state == IS_ENDED ? 1 : 0;
    }

    public int group(int many) throws IllegalArgumentException, IllegalStateException {
        needRange(many, 1, MOST_OPEN);
        needUp();
        int before = groupSize;
        groupSize = many;
        secureGroup();
        return before;
    }

    public int breakRing() throws IllegalStateException {
        needUp();
        Work victim = victimOf(ringBits());
        if (victim == nobody) {
            return NONE;
        }
        int lack = lackOfUndo(victim, 0);
        if (lack != 0) {
            return tellLack(lack);
        }
        undo(victim, 0);
        close(victim, GONE, IS_GONE);
        return victim.number;
    }

    // ---- frames and the log

    public int pin(int page) throws IndexOutOfBoundsException, IllegalStateException {
        needPage(page);
        needUp();
        int lack = lackOf(page);
        if (lack != 0) {
            return tellLack(lack);
        }
        fetch(page);
        pages[page].pins++;
        return pages[page].pins;
    }

    public int unpin(int page) throws IndexOutOfBoundsException, IllegalStateException {
        needPage(page);
        if (isDown || pages[page].pins == 0) {
            throw new IllegalStateException("down, or no pins");
        }
        pages[page].pins--;
        return pages[page].pins;
    }

    public int flush(int page) throws IndexOutOfBoundsException, IllegalStateException {
        needPage(page);
        needUp();
        int wasDirty = pages[page].isDirty() ? 1 : 0;
        if (pages[page].isFramed) {
            save(pages[page]);
        }
        return wasDirty;
    }

    public int force(int many) throws IllegalArgumentException, IllegalStateException {
        needRange(many, 1, MOST_MANY);
        needUp();
        secure(log.safe + many);
        return log.safe;
    }

    public int mark() throws IllegalStateException {
        needUp();
        Tables now = new Tables();
        for (int i = 0; i < open.size(); i++) {
            now.setWork(open.get(i).number, open.get(i).last);
        }
        for (int p = 0; p < PAGES; p++) {
            now.froms[p] = pages[p].from;
        }
        return log.addMark(now);
    }

    public int cut() throws IllegalStateException {
        needUp();
        int from = Math.min(log.safe, followed) + 1;
        for (int p = 0; p < PAGES; p++) {
            from = pages[p].isDirty() ? Math.min(from, pages[p].from) : from;
        }
        for (int w = 0; w < works.size(); w++) {
            from = works.get(w).isUnsettled(log.safe) ? Math.min(from, works.get(w).first) : from;
        }
        from = Math.max(log.kept, firstNotCopied(from));
        int dropped = from - log.kept;
        log.kept = from;
        return dropped;
    }

    // ---- crashes, copies, the mirror

    public int crash() {
        return goDown();
    }

    public int mend(int most, boolean isForced) throws IllegalArgumentException, IllegalStateException {
        needRange(most, 0, MOST_STEPS);
        if (!isDown) {
            throw new IllegalStateException("not down");
        }
        for (int p = 0; p < PAGES; p++) {
            if (pages[p].isTorn()) {
                pages[p].restoreSafe(log);
            }
        }
        tables.survey(log, log.lastSafeMark());
        int made = redoAll(most);
        if (made <= most) {
            made = undoAll(made, most, isForced);
        }
        if (made > most) {
            goDown();
            made = most;
        } else {
            secure(log.last);
            isDown = false;
        }
        steps += made;
        return made;
    }

    public int spoil(int page, int row) throws IndexOutOfBoundsException {
        needRow(page, row);
        int[] values = pages[page].safe.values;
        values[row] = values[row] >= MOST_VALUE ? 0 : values[row] + 1;
        return pages[page].isTorn() ? 1 : 0;
    }

    public int copy() {
        int torn = 0;
        for (int p = 0; p < PAGES; p++) {
            if (pages[p].isTorn()) {
                torn++;
            } else {
                pages[p].copied.become(pages[p].safe);
            }
        }
        return torn;
    }

    public int restore(int page) throws IndexOutOfBoundsException {
        needPage(page);
        return pages[page].isFramed ? tellLack(IN_FRAME) : pages[page].restoreSafe(log);
    }

    public int follow(int many) throws IllegalArgumentException {
        needRange(many, 1, MOST_MANY);
        followUpTo(followed + many);
        return followed;
    }

    public int takeOver() {
        goDown();
        followUpTo(log.safe);
        int others = 0;
        for (int p = 0; p < PAGES; p++) {
            Page page = pages[p];
            if (page.isTorn() || page.safe.number != page.mirrored.number) {
                others++;
            }
            page.becomeSafe(page.mirrored);
        }
        return others;
    }

    public int knock() {
        refused++;
        return refused;
    }

    // ---- what is asked

    public int ofPage(int page, int what) throws IndexOutOfBoundsException, IllegalArgumentException {
        needPage(page);
        needRange(what, 0, 9);
        return pages[page].tell(what);
    }

    public int value(int page, int row, int which) throws IndexOutOfBoundsException, IllegalArgumentException {
        needRow(page, row);
        needRange(which, 0, 3);
        return pages[page].image(which).values[row];
    }

    public int ofWork(int work, int what) throws IndexOutOfBoundsException, IllegalArgumentException {
        needWork(work);
        needRange(what, 0, 6);
        Work asked = workAt(work);
        switch (what) {
            case 0:
                return asked.state;
            case 1:
                return log.isKept(asked.last) ? asked.last : 0;
            case 2:
                return standingChanges(asked);
            case 3:
                return asked.pointCount;
            case 4:
                return asked.countLocks();
            case 5:
                return asked.ask != NO_ASK ? 1 : 0;
            default:
                return smallestOf(waitBits(asked));
        }
    }

    public int ofRecord(int record, int what) throws IndexOutOfBoundsException, IllegalArgumentException {
        if (!log.isKept(record)) {
            throw new IndexOutOfBoundsException("no such record");
        }
        needRange(what, 0, 9);
        return log.tell(record, what);
    }

    public int lockOf(int work, int page, int row) throws IndexOutOfBoundsException {
        needWork(work);
        if (row == NONE) {
            needPage(page);
            return workAt(work).pageLocks[page];
        }
        needRow(page, row);
        return workAt(work).rowLock(page, row);
    }

    public String ring() {
        StringBuilder text = new StringBuilder();
        appendRing(text);
        return text.toString();
    }

    public String frames() {
        StringBuilder text = new StringBuilder();
        appendFrames(text);
        return text.toString();
    }

    public int house(int what) throws IllegalArgumentException {
        needRange(what, 0, 14);
        switch (what) {
            case 0:
                return log.last;
            case 1:
                return log.safe;
            case 2:
                return log.kept;
            case 3:
                return log.countMarks(log.last);
            case 4:
                return works.size();
            case 5:
                return open.size();
            case 6:
                return ending;
            case 7:
                return groupSize;
            case 8:
                return isDown ? 1 : 0;
            case 9:
                return followed;
            case 10:
                return steps;
            case 11:
                return crashes;
            case 12:
                return blocked;
            case 13:
                return lacking;
            default:
                return refused;
        }
    }

    public int owes(int page, int row) throws IndexOutOfBoundsException {
        needRow(page, row);
        for (int r = Math.min(log.last, pages[page].present().number); r >= log.kept; r--) {
            if (log.isOfRow(r, page, row)) {
                return r;
            }
        }
        return NONE;
    }

    // ---- what would be (nothing is changed)

    public int wouldMend(int what) throws IllegalArgumentException {
        needRange(what, 0, 4);
        rehearsal.play(log, pages, log.lastSafeMark());
        return rehearsal.tell(what);
    }

    public int afterMend(int mark, int page, int row) throws IndexOutOfBoundsException {
        if (mark < 0 || mark > log.countMarks(log.safe)) {
            throw new IndexOutOfBoundsException("no such mark");
        }
        needRow(page, row);
        rehearsal.play(log, pages, log.markAt(mark));
        return rehearsal.images[page].values[row];
    }

    public boolean isSound() {
        return areSafeCopiesSound() && doAllLocksGo() && isMendingSound();
    }

    public long digest() {
        long d = 6113;
        for (int what = 0; what <= 14; what++) {
            d = d * 31 + house(what);
        }
        for (int p = 0; p < PAGES; p++) {
            d = digestPage(d, p);
        }
        for (int w = Math.max(0, works.size() - 6); w < works.size(); w++) {
            for (int what = 0; what <= 6; what++) {
                d = d * 31 + ofWork(w, what);
            }
        }
        for (int r = Math.max(log.kept, log.last - 7); r <= log.last; r++) {
            for (int what = 0; what <= 9; what++) {
                d = d * 31 + ofRecord(r, what);
            }
        }
        StringBuilder text = new StringBuilder();
        appendRing(text);
        d = d * 31 + text.length();
        text.setLength(0);
        appendFrames(text);
        d = d * 31 + text.length();
        rehearsal.play(log, pages, log.lastSafeMark());
        for (int what = 0; what <= 4; what++) {
            d = d * 31 + rehearsal.tell(what);
        }
        return d * 31 + (isSound() ? 1 : 0);
    }

    // ---- what calls need

    private boolean isWork(int work) {
        return work >= 0 && work < works.size();
    }

    private Work workAt(int work) {
        return isWork(work) ? works.get(work) : nobody;
    }

    private void needWork(int work) {
        if (!isWork(work)) {
            throw new IndexOutOfBoundsException("no such work");
        }
    }

    private static boolean isPage(int page) {
        return page >= 0 && page < PAGES;
    }

    private void needPage(int page) {
        if (!isPage(page)) {
            throw new IndexOutOfBoundsException("no such page");
        }
    }

    private void needRow(int page, int row) {
        needPage(page);
        if (row < 0 || row >= ROWS) {
            throw new IndexOutOfBoundsException("no such row");
        }
    }

    private void needRange(int number, int least, int most) {
        if (number < least || number > most) {
            throw new IllegalArgumentException("out of range");
        }
    }

    private void needUp() {
        if (isDown) {
            throw new IllegalStateException("down");
        }
    }

    private Work openWork(int work) {
        Work asked = workAt(work);
        if (isDown || asked.state != IS_OPEN) {
            throw new IllegalStateException("down, or not open");
        }
        return asked;
    }

    // ---- pages and frames

    private int tellLack(int lack) {
        lacking++;
        return lack;
    }

    /** What keeps a page out of the frames: -5, -7, or 0 if nothing does. */
    private int lackOf(int page) {
        if (pages[page].isFramed) {
            return 0;
        }
        if (pages[page].isTorn()) {
            return IS_TORN;
        }
        return countPinned() >= FRAMES ? NO_FRAME : 0;
    }

    private int countPinned() {
        int pinned = 0;
        for (int i = 0; i < framed.size(); i++) {
            if (framed.get(i).pins > 0) {
                pinned++;
            }
        }
        return pinned;
    }

    /** Gets a page for which lackOf() told 0; the list of framed pages is by their last use. */
    private void fetch(int page) {
        Page wanted = pages[page];
        int place = placeToClear(wanted);
        if (place >= 0 && place < framed.size()) {
            Page there = framed.get(place);
            if (there != wanted) {
                if (there.isDirty() || there.isTorn()) {
                    save(there);
                }
                there.leave();
            }
            framed.remove(place);
        }
        if (!wanted.isFramed) {
            wanted.come();
        }
        framed.add(wanted);
    }

    /** Where the page stands; otherwise the place of the one that has to leave for it; NONE if none has to. */
    private int placeToClear(Page wanted) {
        int idlest = NONE;
        for (int i = framed.size() - 1; i >= 0; i--) {
            if (framed.get(i) == wanted) {
                return i;
            }
            if (framed.get(i).pins == 0) {
                idlest = i;
            }
        }
        return framed.size() >= FRAMES ? idlest : NONE;
    }

    private void save(Page page) {
        secure(page.now.number);
        page.safe.become(page.now);
        page.sum = page.safe.addUp();
        page.from = 0;
    }

    // ---- the log

    /** Makes the log safe up to a record (or all of it); works whose END is safe now are ended. */
    private void secure(int upTo) {
        int end = Math.min(upTo, log.last);
        for (int r = log.safe + 1; r <= end; r++) {
            int work = log.kinds[r] == END ? log.works[r] : NONE;
            if (work >= 0 && work < works.size()) {
                works.get(work).state = IS_ENDED;
                ending--;
            }
            log.safe = r;
        }
    }

    private void secureGroup() {
        if (ending >= groupSize) {
            secure(log.last);
        }
    }

    private int put(int kind, Work work) {
        int record = log.add(kind, work.number, work.last);
        if (record != 0) {
            work.last = record;
        }
        return record;
    }

    private int putOnPage(int kind, Work work, int page, int row, int before, int after) {
        fetch(page);
        int record = put(kind, work);
        log.place(record, page, row, before, after);
        if (record != 0) {
            pages[page].receive(log, record);
        }
        return record;
    }

    private void putBack(Work work, int change) {
        int record = putOnPage(BACK, work, log.page(change), log.row(change), log.after(change), log.before(change));
        log.pair(change, record);
    }

    /** Undoes a work down to a record; tells how many BACKS were put. */
    private int undo(Work work, int down) {
        int backs = 0;
        int u = work.last;
        for (int turn = 0; u > down && turn < FAR; turn++) {
            if (log.isChange(u)) {
                putBack(work, u);
                backs++;
            }
            u = log.under(u);
        }
        return backs;
    }

    /** What hinders undoing: -5, -7, or 0; a page that only leaves meanwhile is saved and can come again. */
    private int lackOfUndo(Work work, int down) {
        int lack = 0;
        int u = work.last;
        for (int turn = 0; u > down && turn < FAR; turn++) {
            if (log.isChange(u)) {
                int found = lackOf(log.page(u));
                lack = lack == IS_TORN ? lack : found != 0 ? found : lack;
            }
            u = log.under(u);
        }
        return lack;
    }

    private int standingChanges(Work work) {
        int standing = 0;
        int r = work.last;
        for (int turn = 0; log.isKept(r) && turn < FAR; turn++) {
            if (log.isStanding(r)) {
                standing++;
            }
            r = log.previous(r);
        }
        return standing;
    }

    /** The first kept record that is missing in the copy of its page, or the limit, if there is none ahead of it. */
    private int firstNotCopied(int limit) {
        for (int r = log.kept; r < limit; r++) {
            int page = log.page(r);
            if (isPage(page) && r > pages[page].copied.number) {
                return r;
            }
        }
        return limit;
    }

    private void followUpTo(int upTo) {
        int end = Math.min(upTo, log.safe);
        for (int r = followed + 1; r <= end; r++) {
            int page = log.page(r);
            if (isPage(page)) {
                pages[page].mirrored.perform(log, r);
            }
            followed = r;
        }
    }

    // ---- works and locks

    private void close(Work work, int kind, int state) {
        work.closing = put(kind, work);
        work.state = state;
        work.letGo();
        for (int i = 0; i < open.size(); i++) {
            if (open.get(i) == work) {
                open.remove(i);
                return;
            }
        }
    }

    /** Gets the locks that a work needs for a row, and the page; tells -6, -5 or -7, or 0 if all was got. */
    private int enter(Work work, int ask, int page, int row) {
        if (!isLet(work, ask, page, row)) {
            return IS_LOCKED;
        }
        int lack = lackOf(page);
        if (lack != 0) {
            return tellLack(lack);
        }
        work.obtain(ask, page, row);
        fetch(page);
        return 0;
    }

    /** Whether no lock is in the way; otherwise the work waits from now on. */
    private boolean isLet(Work work, int ask, int page, int row) {
        work.waitFor(ask, page, row);
        if (waitBits(work) != 0) {
            blocked++;
            return false;
        }
        work.ask = NO_ASK;
        return true;
    }

    /** The open works for which a work waits, a bit for each place in the list of them. */
    private int waitBits(Work work) {
        int bits = 0;
        for (int i = 0; work.ask != NO_ASK && i < open.size(); i++) {
            if (open.get(i) != work && work.isHinderedBy(open.get(i))) {
                bits |= 1 << i;
            }
        }
        return bits;
    }

    private int smallestOf(int bits) {
        for (int i = 0; i < open.size(); i++) {
            if (hasBit(bits, i)) {
                return open.get(i).number;
            }
        }
        return NONE;
    }

    /** The works of the ring, a bit for each place in the list of open works; 0 without one. */
    private int ringBits() {
        int[] reach = new int[MOST_OPEN];
        int many = Math.min(open.size(), MOST_OPEN);
        for (int i = 0; i < many; i++) {
            reach[i] = waitBits(open.get(i));
        }
        for (int over = 0; over < many; over++) {
            for (int i = 0; i < many; i++) {
                reach[i] |= hasBit(reach[i], over) ? reach[over] : 0;
            }
        }
        for (int i = 0; i < many; i++) {
            if (hasBit(reach[i], i)) {
                return bitsBackTo(reach, i);
            }
        }
        return 0;
    }

    private static int bitsBackTo(int[] reach, int start) {
        int bits = 0;
        for (int i = 0; i < reach.length; i++) {
            if (hasBit(reach[start], i) && hasBit(reach[i], start)) {
                bits |= 1 << i;
            }
        }
        return bits;
    }

    private Work victimOf(int bits) {
        Work victim = nobody;
        int fewest = FAR;
        for (int i = 0; i < open.size(); i++) {
            if (hasBit(bits, i) && standingChanges(open.get(i)) <= fewest) {
                victim = open.get(i);
                fewest = standingChanges(victim);
            }
        }
        return victim;
    }

    private static boolean hasBit(int bits, int at) {
        return (bits >> at & 1) == 1;
    }

    // ---- texts

    private void appendRing(StringBuilder text) {
        int bits = ringBits();
        for (int i = 0; i < open.size(); i++) {
            if (hasBit(bits, i)) {
                appendGap(text);
                text.append(open.get(i).number);
            }
        }
        appendDash(text);
    }

    private void appendFrames(StringBuilder text) {
        for (int i = 0; i < framed.size(); i++) {
            Page page = framed.get(i);
            appendGap(text);
            text.append(page.index);
            if (page.isDirty()) {
                text.append('*');
            }
            if (page.pins > 0) {
                text.append('+');
            }
        }
        appendDash(text);
    }

    private static void appendGap(StringBuilder text) {
        if (text.length() > 0) {
            text.append(' ');
        }
    }

    private static void appendDash(StringBuilder text) {
        if (text.length() == 0) {
            text.append('-');
        }
    }

    // ---- crashes and mending

    private int goDown() {
        for (int w = 0; w < works.size(); w++) {
            works.get(w).fall(log);
        }
        for (int p = 0; p < PAGES; p++) {
            pages[p].leave();
        }
        framed.clear();
        open.clear();
        ending = 0;
        isDown = true;
        crashes++;
        return log.loseUnsafe();
    }

    /** Does again what is missing in the pages of the tables; tells the steps, one more than most if too few are let. */
    private int redoAll(int most) {
        int made = 0;
        int end = log.last;
        for (int r = tables.firstToRedo(log); r <= end; r++) {
            if (!tables.isToRedo(log, r)) {
                continue;
            }
            Page page = pages[log.page(r)];
            fetch(page.index);
            if (page.now.number < r) {
                if (made >= most) {
                    return most + 1;
                }
                page.receive(log, r);
                made++;
            }
        }
        return made;
    }

    /** Undoes all works of the tables; tells the steps (with those made before), one more than most if too few are let. */
    private int undoAll(int before, int most, boolean isForced) {
        int made = before;
        for (int turn = 0; tables.count > 0 && turn < FAR; turn++) {
            int at = tables.latest();
            Work work = workAt(tables.works[at]);
            int u = tables.lasts[at];
            if (log.isChange(u)) {
                if (made >= most) {
                    return most + 1;
                }
                putBack(work, u);
                made++;
                if (isForced) {
                    secure(log.last);
                }
            }
            if (tables.goOn(log, at)) {
                close(work, GONE, IS_GONE);
            }
        }
        return made;
    }

    // ---- what is sound

    private boolean areSafeCopiesSound() {
        for (int p = 0; p < PAGES; p++) {
            Page page = pages[p];
            if (!page.isTorn()) {
                page.rebuild(rehearsal.images[p], log);
                if (page.safe.number > log.safe || rehearsal.images[p].number < page.safe.number) {
                    return false;
                }
            }
        }
        return true;
    }

    private boolean doAllLocksGo() {
        for (int i = 0; i < open.size(); i++) {
            for (int j = i + 1; j < open.size(); j++) {
                if (!open.get(i).goesWith(open.get(j))) {
                    return false;
                }
            }
        }
        return true;
    }

    private boolean isMendingSound() {
        rehearsal.play(log, pages, log.markAt(0));
        rehearsal.keepValues();
        if (log.kept == 1 && !isAsEnded()) {
            return false;
        }
        int marks = log.countMarks(log.safe);
        for (int n = Math.max(1, marks - 2); n <= marks; n++) {
            rehearsal.play(log, pages, log.markAt(n));
            if (!rehearsal.isAsKept()) {
                return false;
            }
        }
        return true;
    }

    /** Whether the values that the rehearsal keeps are what the ended works left. */
    private boolean isAsEnded() {
        int[] due = rehearsal.due;
        Arrays.fill(due, 0);
        for (int r = 1; r <= log.safe; r++) {
            if (log.isOnRow(r) && workAt(log.work(r)).state == IS_ENDED) {
                due[log.page(r) * ROWS + log.row(r)] = log.after(r);
            }
        }
        for (int i = 0; i < due.length; i++) {
            if (due[i] != rehearsal.valuesKept[i]) {
                return false;
            }
        }
        return true;
    }

    private long digestPage(long before, int page) {
        long d = before;
        for (int what = 0; what <= 9; what++) {
            d = d * 31 + ofPage(page, what);
        }
        for (int row = 0; row < ROWS; row++) {
            for (int which = 0; which <= 3; which++) {
                d = d * 31 + value(page, row, which);
            }
            d = d * 31 + owes(page, row);
        }
        return d;
    }

    /** What a page holds: in a frame, safe, in the copy, or in the mirror. */
    private static final class Image {
        private final int[] values = new int[ROWS];
        private int number = 0;
        private int ticket = 0;

        private void become(Image other) {
            number = other.number;
            ticket = other.ticket;
            System.arraycopy(other.values, 0, values, 0, ROWS);
        }

        private int addUp() {
            int sum = number + ticket;
            for (int r = 0; r < ROWS; r++) {
                sum += (r + 1) * values[r];
            }
            return sum;
        }

        private void perform(Log log, int record) {
            int row = log.row(record);
            if (log.kind(record) == TICKET) {
                ticket = log.after(record);
            } else if (row >= 0 && row < ROWS) {
                values[row] = log.after(record);
            }
            number = record;
        }
    }

    private static final class Page {
        private final int index;
        private final Image now = new Image();
        private final Image safe = new Image();
        private final Image copied = new Image();
        private final Image mirrored = new Image();
        private int sum = 0;
        private boolean isFramed = false;
        // The first record done since the page came or was written; 0, if it is not dirty.
        private int from = 0;
        private int pins = 0;

        private Page(int index) {
            this.index = index;
        }

        private boolean isTorn() {
            return sum != safe.addUp();
        }

        private boolean isDirty() {
            return from != 0;
        }

        private Image present() {
            return isFramed ? now : safe;
        }

        private Image image(int which) {
            switch (which) {
                case 0:
                    return present();
                case 1:
                    return safe;
                case 2:
                    return copied;
                default:
                    return mirrored;
            }
        }

        private void come() {
            now.become(safe);
            isFramed = true;
        }

        private void leave() {
            isFramed = false;
            from = 0;
            pins = 0;
        }

        private void becomeSafe(Image image) {
            safe.become(image);
            sum = safe.addUp();
        }

        private void receive(Log log, int record) {
            now.perform(log, record);
            if (from == 0) {
                from = record;
            }
        }

        /** Makes of an image what would be restored; tells how many records were done. */
        private int rebuild(Image image, Log log) {
            int done = 0;
            image.become(copied);
            for (int r = Math.max(log.kept, copied.number + 1); r <= log.safe; r++) {
                if (log.page(r) == index) {
                    image.perform(log, r);
                    done++;
                }
            }
            return done;
        }

        private int restoreSafe(Log log) {
            int done = rebuild(safe, log);
            sum = safe.addUp();
            return done;
        }

        private int tell(int what) {
            switch (what) {
                case 0:
                    return isFramed ? 1 : 0;
                case 1:
                    return isDirty() ? 1 : 0;
                case 2:
                    return present().number;
                case 3:
                    return from;
                case 4:
                    return pins;
                case 5:
                    return safe.number;
                case 6:
                    return isTorn() ? 1 : 0;
                case 7:
                    return present().ticket;
                case 8:
                    return copied.number;
                default:
                    return mirrored.number;
            }
        }
    }

    private static final class Work {
        private final int number;
        private final int[] pageLocks = new int[PAGES];
        private final int[] rowLocks = new int[PAGES * ROWS];
        private int[] points = new int[4];
        private int pointCount = 0;
        private int state = IS_OPEN;
        // Records: its BEGIN (0, if that was lost), its END or GONE (0 without one), and the last one it put.
        private int first = 0;
        private int closing = 0;
        private int last = 0;
        // The last call that told -6, as long as the work waits.
        private int ask = NO_ASK;
        private int askPage = 0;
        private int askRow = NONE;

        private Work(int number) {
            this.number = number;
        }

        private int addPoint() {
            int number = pointCount;
            if (number >= points.length && number < MOST_CALLS) {
                points = Arrays.copyOf(points, 2 * points.length);
            }
            if (number < points.length) {
                points[number] = last;
                pointCount++;
            }
            return number;
        }

        private boolean hasPoint(int point) {
            return point >= 0 && point < pointCount;
        }

        private int pointAt(int point) {
            return hasPoint(point) && point < points.length ? points[point] : last;
        }

        private void letGo() {
            Arrays.fill(pageLocks, 0);
            Arrays.fill(rowLocks, 0);
            pointCount = 0;
            ask = NO_ASK;
        }

        /** What a crash makes of the work: only its safe records count. */
        private void fall(Log log) {
            letGo();
            first = first > log.safe ? 0 : first;
            closing = closing > log.safe ? 0 : closing;
            for (int turn = 0; last > log.safe && turn < FAR; turn++) {
                last = log.previous(last);
            }
            if (closing != 0) {
                state = log.kind(closing) == END ? IS_ENDED : IS_GONE;
            } else {
                state = first != 0 ? IS_LOST : IS_GONE;
            }
        }

        /** Whether a crash could still make its records needed. */
        private boolean isUnsettled(int safe) {
            return first != 0 && (state == IS_OPEN || closing > safe);
        }

        private int rowLock(int page, int row) {
            return row == NONE ? 0 : rowLocks[page * ROWS + row];
        }

        private int countLocks() {
            int locks = 0;
            for (int p = 0; p < pageLocks.length; p++) {
                locks += pageLocks[p] != 0 ? 1 : 0;
            }
            for (int r = 0; r < rowLocks.length; r++) {
                locks += rowLocks[r] != 0 ? 1 : 0;
            }
            return locks;
        }

        private boolean hasEnough(int ask, int page, int row) {
            int held = row == NONE ? 0 : rowLocks[page * ROWS + row];
            if (ask == TO_READ) {
                return pageLocks[page] >= PAGE_SHARED || held != 0;
            }
            return ask == TO_WRITE && (pageLocks[page] == PAGE_SOLE || held == ROW_SOLE);
        }

        /** The lock that the work would have on the page. */
        private int pageLockFor(int ask, int page, int row) {
            int held = pageLocks[page];
            if (ask == TO_OWN) {
                return PAGE_SOLE;
            }
            if (ask == TO_SHARE) {
                return held == SOME_SOLE ? PAGE_SOLE : Math.max(held, PAGE_SHARED);
            }
            if (hasEnough(ask, page, row)) {
                return held;
            }
            if (ask == TO_READ) {
                return Math.max(held, SOME_SHARED);
            }
            return held == PAGE_SHARED ? PAGE_SOLE : SOME_SOLE;
        }

        /** The lock that the work would have on the row. */
        private int rowLockFor(int ask, int page, int row) {
            if (row == NONE || hasEnough(ask, page, row)) {
                return rowLock(page, row);
            }
            if (ask == TO_READ) {
                return ROW_SHARED;
            }
            // SHARED on the page becomes SOLE there, and then no row is locked.
            return pageLocks[page] == PAGE_SHARED ? rowLock(page, row) : ROW_SOLE;
        }

        private void obtain(int ask, int page, int row) {
            int pageLock = pageLockFor(ask, page, row);
            int rowLock = rowLockFor(ask, page, row);
            pageLocks[page] = pageLock;
            if (row != NONE) {
                rowLocks[page * ROWS + row] = rowLock;
            }
        }

        private void waitFor(int ask, int page, int row) {
            this.ask = ask;
            askPage = page;
            askRow = row;
        }

        /** Whether a lock of another work can not go with one that this one asks for. */
        private boolean isHinderedBy(Work other) {
            int pageLock = pageLockFor(ask, askPage, askRow);
            int rowLock = rowLockFor(ask, askPage, askRow);
            return !hasBit(PAGE_LOCKS_GO[pageLock], other.pageLocks[askPage])
                    || !hasBit(ROW_LOCKS_GO[rowLock], other.rowLock(askPage, askRow));
        }

        private boolean goesWith(Work other) {
            for (int p = 0; p < PAGES; p++) {
                if (!hasBit(PAGE_LOCKS_GO[pageLocks[p]], other.pageLocks[p])) {
                    return false;
                }
            }
            for (int r = 0; r < rowLocks.length; r++) {
                if (!hasBit(ROW_LOCKS_GO[rowLocks[r]], other.rowLocks[r])) {
                    return false;
                }
            }
            return true;
        }
    }

    /** The records, a column for each of their parts, and the tables of the marks. */
    private static final class Log {
        private final int[] kinds = new int[MOST_RECORDS + 1];
        private final int[] works = new int[MOST_RECORDS + 1];
        private final int[] pages = new int[MOST_RECORDS + 1];
        private final int[] rows = new int[MOST_RECORDS + 1];
        private final int[] olds = new int[MOST_RECORDS + 1];
        private final int[] news = new int[MOST_RECORDS + 1];
        private final int[] priors = new int[MOST_RECORDS + 1];
        private final int[] nexts = new int[MOST_RECORDS + 1];
        // Of a CHANGE its BACK, of a BACK its CHANGE, of a MARK its place in the list of tables.
        private final int[] mates = new int[MOST_RECORDS + 1];
        private final ArrayList<Tables> marks = new ArrayList<Tables>();
        private final Tables blank = new Tables();
        private int last = 0;
        private int safe = 0;
        private int kept = 1;

        private boolean has(int record) {
            return record >= 1 && record <= last;
        }

        private boolean isKept(int record) {
            return record >= kept && has(record);
        }

        private int kind(int record) {
            return record >= 1 && record <= last ? kinds[record] : NONE;
        }

        private int work(int record) {
            return record >= 1 && record <= last ? works[record] : NONE;
        }

        private int page(int record) {
            return record >= 1 && record <= last ? pages[record] : NONE;
        }

        private int row(int record) {
            return record >= 1 && record <= last ? rows[record] : NONE;
        }

        private int before(int record) {
            return record >= 1 && record <= last ? olds[record] : NONE;
        }

        private int after(int record) {
            return record >= 1 && record <= last ? news[record] : NONE;
        }

        private int previous(int record) {
            return record >= 1 && record <= last ? priors[record] : 0;
        }

        /** To which record undoing goes on from one. */
        private int under(int record) {
            if (record < 1 || record > last) {
                return 0;
            }
            return kinds[record] == BACK ? nexts[record] : priors[record];
        }

        private boolean isChange(int record) {
            return isOnRow(record) && kinds[record] == CHANGE;
        }

        /** Whether a record is a CHANGE or BACK, with its page and row. */
        private boolean isOnRow(int record) {
            if (record < 1 || record > last || kinds[record] != CHANGE && kinds[record] != BACK) {
                return false;
            }
            int page = pages[record];
            int row = rows[record];
            return page >= 0 && page < PAGES && row >= 0 && row < ROWS;
        }

        private boolean isOfRow(int record, int page, int row) {
            return isOnRow(record) && pages[record] == page && rows[record] == row;
        }

        private boolean isStanding(int record) {
            return isChange(record) && mates[record] == 0;
        }

        /** Puts a record; tells its number, or 0 if there is no room, which 512 calls can not bring about. */
        private int add(int kind, int work, int before) {
            if (last >= MOST_RECORDS) {
                return 0;
            }
            last++;
            kinds[last] = kind;
            works[last] = work;
            pages[last] = NONE;
            rows[last] = NONE;
            olds[last] = NONE;
            news[last] = NONE;
            priors[last] = before;
            nexts[last] = NONE;
            mates[last] = 0;
            return last;
        }

        private int addMark(Tables table) {
            int record = add(MARK, NONE, 0);
            if (record != 0) {
                mates[record] = marks.size();
                table.record = record;
                marks.add(table);
            }
            return record;
        }

        private void place(int record, int page, int row, int before, int after) {
            if (has(record)) {
                pages[record] = page;
                rows[record] = row;
                olds[record] = before;
                news[record] = after;
            }
        }

        private void pair(int change, int back) {
            if (has(change) && has(back)) {
                nexts[back] = priors[change];
                mates[back] = change;
                mates[change] = back;
            }
        }

        /** Drops all that is not safe; tells how many records that were. */
        private int loseUnsafe() {
            int lost = last - safe;
            for (int r = safe + 1; r <= last; r++) {
                if (kinds[r] == BACK && has(mates[r])) {
                    mates[mates[r]] = 0;
                }
            }
            last = safe;
            for (int i = marks.size() - 1; i >= 0 && marks.get(i).record > safe; i--) {
                marks.remove(i);
            }
            return lost;
        }

        /** How many marks are kept and not above a record. */
        private int countMarks(int upTo) {
            int count = 0;
            for (int i = 0; i < marks.size(); i++) {
                if (marks.get(i).record >= kept && marks.get(i).record <= upTo) {
                    count++;
                }
            }
            return count;
        }

        /** The tables of the nth mark that is kept and safe; empty ones for 0. */
        private Tables markAt(int n) {
            int count = 0;
            for (int i = 0; i < marks.size(); i++) {
                if (marks.get(i).record >= kept && marks.get(i).record <= safe) {
                    count++;
                    if (count == n) {
                        return marks.get(i);
                    }
                }
            }
            return blank;
        }

        private Tables lastSafeMark() {
            return markAt(countMarks(safe));
        }

        private boolean isMark(int record) {
            return kind(record) == MARK && mates[record] >= 0 && mates[record] < marks.size();
        }

        private int tell(int record, int what) {
            if (!has(record)) {
                return NONE;
            }
            switch (what) {
                case 0:
                    return kinds[record];
                case 1:
                    return works[record];
                case 2:
                    return pages[record];
                case 3:
                    return rows[record];
                case 4:
                    return olds[record];
                case 5:
                    return news[record];
                case 6:
                    return priors[record];
                case 7:
                    return nexts[record];
                case 8:
                    return isMark(record) ? marks.get(mates[record]).count : NONE;
                default:
                    return isMark(record) ? marks.get(mates[record]).countPages() : NONE;
            }
        }
    }

    /** The tables of works and pages: those that a mark keeps, and those that mending makes. */
    private static final class Tables {
        private final int[] works = new int[MOST_OPEN];
        // Of each work the record it put last; as mending undoes it, the record that is next.
        private final int[] lasts = new int[MOST_OPEN];
        // Of each page its FROM; 0, if it is not in the table.
        private final int[] froms = new int[PAGES];
        private int count = 0;
        // The MARK that keeps these tables; 0 without one.
        private int record = 0;

        private void become(Tables other) {
            System.arraycopy(other.works, 0, works, 0, MOST_OPEN);
            System.arraycopy(other.lasts, 0, lasts, 0, MOST_OPEN);
            System.arraycopy(other.froms, 0, froms, 0, PAGES);
            count = other.count;
            record = other.record;
        }

        private int placeOf(int work) {
            for (int i = 0; i < count; i++) {
                if (works[i] == work) {
                    return i;
                }
            }
            return NONE;
        }

        private void setWork(int work, int last) {
            int at = placeOf(work);
            if (at == NONE && count < MOST_OPEN) {
                at = count;
                works[at] = work;
                count++;
            }
            if (at != NONE) {
                lasts[at] = last;
            }
        }

        private void dropAt(int at) {
            if (at >= 0 && at < count) {
                count--;
                works[at] = works[count];
                lasts[at] = lasts[count];
            }
        }

        private int countPages() {
            int many = 0;
            for (int p = 0; p < PAGES; p++) {
                many += froms[p] != 0 ? 1 : 0;
            }
            return many;
        }

        private int smallestFrom() {
            int smallest = 0;
            for (int p = 0; p < PAGES; p++) {
                if (froms[p] != 0 && (smallest == 0 || froms[p] < smallest)) {
                    smallest = froms[p];
                }
            }
            return smallest;
        }

        /** Fills the tables from a mark and the safe log behind it; tells how many records were looked at. */
        private int survey(Log log, Tables mark) {
            become(mark);
            int start = Math.max(log.kept, mark.record + 1);
            for (int r = start; r <= log.safe; r++) {
                int kind = log.kind(r);
                if (kind == END || kind == GONE) {
                    dropAt(placeOf(log.work(r)));
                } else if (kind != MARK) {
                    setWork(log.work(r), r);
                }
                int page = log.page(r);
                if (isPage(page) && froms[page] == 0) {
                    froms[page] = r;
                }
            }
            return Math.max(0, log.safe - start + 1);
        }

        private int firstToRedo(Log log) {
            int from = smallestFrom();
            return from == 0 ? log.safe + 1 : Math.max(log.kept, from);
        }

        private boolean isToRedo(Log log, int r) {
            int page = log.page(r);
            return isPage(page) && froms[page] != 0 && froms[page] <= r;
        }

        /** The place of the work that is to be undone next. */
        private int latest() {
            int at = 0;
            for (int i = 1; i < count; i++) {
                at = lasts[i] > lasts[at] ? i : at;
            }
            return at;
        }

        /** Goes on by one record with undoing; tells whether the work is undone, and out of the table by that. */
        private boolean goOn(Log log, int at) {
            lasts[at] = log.under(lasts[at]);
            if (lasts[at] > 0) {
                return false;
            }
            dropAt(at);
            return true;
        }
    }

    /** A mending that is only played, on images of its own. */
    private static final class Rehearsal {
        private final Tables tables = new Tables();
        private final Image[] images = new Image[PAGES];
        private final int[] valuesKept = new int[PAGES * ROWS];
        private final int[] due = new int[PAGES * ROWS];
        private int looked = 0;
        private int redone = 0;
        private int backs = 0;
        private int gone = 0;
        private int smallestFrom = 0;

        private Rehearsal() {
            for (int p = 0; p < PAGES; p++) {
                images[p] = new Image();
            }
        }

        private void play(Log log, Page[] pages, Tables mark) {
            for (int p = 0; p < PAGES; p++) {
                if (pages[p].isTorn()) {
                    pages[p].rebuild(images[p], log);
                } else {
                    images[p].become(pages[p].safe);
                }
            }
            looked = tables.survey(log, mark);
            smallestFrom = tables.smallestFrom();
            gone = tables.count;
            playRedo(log);
            playUndo(log);
        }

        private void playRedo(Log log) {
            redone = 0;
            for (int r = tables.firstToRedo(log); r <= log.safe; r++) {
                if (tables.isToRedo(log, r) && images[log.page(r)].number < r) {
                    images[log.page(r)].perform(log, r);
                    redone++;
                }
            }
        }

        private void playUndo(Log log) {
            backs = 0;
            for (int turn = 0; tables.count > 0 && turn < FAR; turn++) {
                int at = tables.latest();
                int u = tables.lasts[at];
                if (log.isChange(u)) {
                    images[log.page(u)].values[log.row(u)] = log.before(u);
                    backs++;
                }
                tables.goOn(log, at);
            }
        }

        private int tell(int what) {
            switch (what) {
                case 0:
                    return looked;
                case 1:
                    return redone;
                case 2:
                    return backs;
                case 3:
                    return gone;
                default:
                    return smallestFrom;
            }
        }

        private void keepValues() {
            for (int i = 0; i < valuesKept.length; i++) {
                valuesKept[i] = images[i / ROWS].values[i % ROWS];
            }
        }

        private boolean isAsKept() {
            for (int i = 0; i < valuesKept.length; i++) {
                if (valuesKept[i] != images[i / ROWS].values[i % ROWS]) {
                    return false;
                }
            }
            return true;
        }
    }
}
