import java.util.Arrays;

/**
 * A collector that keeps a promised share: a heap of pages, marked and swept a tick at a time.
 * What each call answers stands in DOC.md; the words of that document are used here as names.
 */
public final class PromisedShare {
    private static final int NO_SUCH = -1;
    private static final int FULL = -2;
    private static final int NOT_SO = -3;
    private static final int NONE = -4;
    private static final int TOO_MUCH = -5;
    private static final int NOTHING_HELD = -11;
    private static final int OTHER_KIND = -12;
    private static final int NO_PLACE = -13;
    private static final int SIZE_BELOW_0 = -14;
    private static final int NO_FAILURE = -15;
    private static final int FINE = 0;
    private static final long LONG_REFUSAL = 10000000000L;

    private static final int PAGES = 6;
    private static final int PAGE_UNITS = 12;
    private static final int ALL_UNITS = 72;
    private static final int THINGS = 16;
    private static final int ROOTS = 4;
    private static final int KINDS = 8;
    private static final int MOST_FIGURE = 9;
    private static final int MOST_LINKS = 3;
    private static final int MOST_NUMBERS = 4;
    private static final int NO_PAGE_TOLD = 6;

    private static final int OFF = 0;
    private static final int MARKING = 1;
    private static final int SWEEPING = 2;
    /** The program ran in all of the 9 ticks ahead: a bit for each. */
    private static final int ALL_AHEAD = 511;
    private static final int LAST_TICK = 999;
    private static final int MOST_TICKS = 60;
    private static final int MOST_IN_MIND = 99;
    private static final int FIRST_SHARE = 7;
    private static final int MOST_SHARE = 10;
    private static final int MOST_RATE = 12;
    /** Above all that one collection can need: each thing once off the list, the turn, the pages. */
    private static final int MOST_WORK = 64;

    private static final int SHELVES = 8;
    private static final int MOST_ELEMENTS = 100;
    private static final int BYTES = 0;
    private static final int SHORTS = 1;
    private static final int INTS = 2;
    private static final int LEAST_BYTE = -128;
    private static final int LEAST_SHORT = -32768;
    private static final int LEAST_INT = -2147483648;
    private static final int GREATEST_INT = 2147483647;

    private static final int WORDS = 9;
    private static final int MAKE = 0;
    private static final int ROOT = 1;
    private static final int DROP = 2;
    private static final int LINK = 3;
    private static final int CUT = 4;
    private static final int GO = 5;
    private static final int TICK = 6;
    private static final int SHARE = 7;
    private static final int SET = 8;
    private static final int[] NUMBERS_OF_WORD = {2, 2, 1, 3, 2, 0, 1, 1, 3};
    private static final int TEXT_FAULT = -1000;
    private static final int STATEMENT_FAULT = -2000;

    private final Cell[] kinds;
    private final Heap now;
    /** Where a call tries what would come, so that no call has to make a heap of its own. */
    private final Heap mind;
    private final Heap imaged;
    private boolean hasImage;
    private final Shelf[] shelves;
    private final Text text;
    /** The long row that a call reads. */
    private final int[] longRow;
    /** The seed of the draws of the call that runs. */
    private int seed;

    public PromisedShare() {
        kinds = new Cell[KINDS];
        kinds[0] = new Cell(0);
        kinds[1] = new Leaf(1);
        kinds[2] = new Spine(2);
        kinds[3] = new Pin(3);
        kinds[4] = new Weak(4);
        kinds[5] = new Big(5);
        kinds[6] = new Tail(6);
        kinds[7] = new Hook(7);
        now = new Heap();
        mind = new Heap();
        imaged = new Heap();
        shelves = new Shelf[SHELVES];
        for (int d = 0; d < SHELVES; d++) {
            shelves[d] = new Shelf();
        }
        text = new Text();
        longRow = new int[MOST_LINKS * MOST_NUMBERS];
    }

    // ---- the program as told

    public int program(int d) {
        int refusal = refusalOfRow(d);
        if (refusal != FINE) {
            return refusal;
        }
        Shelf row = shelves[d];
        if (row.sort != BYTES) {
            return OTHER_KIND;
        }
        int fault = text.faultOf(row);
        if (fault >= 0) {
            return TEXT_FAULT - fault;
        }
        // In mind first, as with a fault in any statement nothing of the text comes.
        mind.takeFrom(now);
        int place = 0;
        int statements = 0;
        while (place < row.length && statements < MOST_ELEMENTS) {
            int next = text.readStatement(row, place);
            if (next < 0 || !runStatement()) {
                return STATEMENT_FAULT - place;
            }
            statements++;
            place = next + 1;
        }
        now.takeFrom(mind);
        return statements;
    }

    public int thing(int t, int what) {
        if (!now.has(t)) {
            return NO_SUCH;
        }
        switch (what) {
            case 0:
                return now.codeOf(t);
            case 1:
                return now.figure[t];
            case 2:
                return now.size[t];
            case 3:
                return now.page[t];
            case 4:
                return now.marks >> t & 1;
            case 5:
                return now.linksOf(t);
            case 6:
                return now.numbersOf(t);
            case 7:
                return now.depthOf(t);
            default:
                return NO_SUCH;
        }
    }

    public int make(int kind, int figure) {
        return makeIn(now, kind, figure);
    }

    public int comes(int d) {
        int refusal = refusalOfThing(d);
        if (refusal != FINE) {
            return refusal;
        }
        return now.create(shelves[d].kind, shelves[d].figure);
    }

    public int root(int r, int t) {
        return rootIn(now, r, t);
    }

    public int link(int t, int l, int to) {
        return linkIn(now, t, l, to);
    }

    public int linked(int t, int l) {
        return now.hasLink(t, l) ? orNone(now.link[t * MOST_LINKS + l]) : NO_SUCH;
    }

    public long set(int t, int i, int v) {
        if (!now.hasNumber(t, i)) {
            return refusedLong(NO_SUCH);
        }
        int old = now.number[t * MOST_NUMBERS + i];
        now.number[t * MOST_NUMBERS + i] = v;
        return old;
    }

    public int begins() {
        if (now.phase != OFF) {
            return NOT_SO;
        }
        now.begin();
        return Integer.bitCount(now.marks);
    }

    public int share(int v) {
        return shareIn(now, v);
    }

    public int ticks(int n) {
        return ticksIn(now, n);
    }

    // ---- what is reached

    public int reached(int what) {
        switch (what) {
            case 0:
                return now.reach();
            case 1:
                return now.bits() & ~now.reach();
            case 2:
                return now.bits() & ~now.reach() & now.marks;
            case 3:
                return now.marks;
            default:
                return NO_SUCH;
        }
    }

    public int kept(int t) {
        return now.has(t) ? now.reach() & ~now.reachBut(NONE, NONE, t) : NO_SUCH;
    }

    public int cut(int what) {
        if (what < 0 || what > 1) {
            return NO_SUCH;
        }
        int reach = now.reach();
        int best = 0;
        int most = 0;
        for (int r = 0; r < ROOTS; r++) {
            int units = now.unitsOf(reach & ~now.reachBut(r, NONE, NONE));
            if (units > most) {
                most = units;
                best = r;
            }
        }
        return what == 0 ? best : most;
    }

    public int snip(int what) {
        if (what < 0 || what > 1) {
            return NO_SUCH;
        }
        int reach = now.reach();
        int best = NONE;
        int most = 0;
        for (int t = 0; t < THINGS; t++) {
            for (int l = 0; l < now.linksOf(t); l++) {
                int units = now.unitsOf(reach & ~now.reachBut(NONE, t * MOST_LINKS + l, NONE));
                if (units > most) {
                    most = units;
                    best = 10 * t + l;
                }
            }
        }
        return what == 0 || best == NONE ? best : most;
    }

    // ---- ticks on

    public int then(int n, int what) {
        if (n < 0 || n > MOST_IN_MIND || what < 0 || what > 3) {
            return NO_SUCH;
        }
        mind.takeFrom(now);
        int ran = mind.run(n);
        switch (what) {
            case 0:
                return mind.freeOfAll();
            case 1:
                return mind.bits();
            case 2:
                return n == 0 ? NONE : mind.ahead & 1;
            default:
                return ran;
        }
    }

    public int ends() {
        mind.takeFrom(now);
        for (int n = 0; n <= MOST_IN_MIND; n++) {
            if (mind.phase == OFF) {
                return n;
            }
            mind.step();
        }
        return NONE;
    }

    public int gains() {
        // With nothing done meanwhile, a collection takes all that is garbage as it begins.
        return now.phase == OFF ? now.unitsOf(now.bits() & ~now.reach()) : NOT_SO;
    }

    public int least(int n) {
        if (n < 1 || n > MOST_TICKS) {
            return NO_SUCH;
        }
        mind.takeFrom(now);
        int least = MOST_SHARE;
        for (int i = 0; i < n; i++) {
            int nineAhead = Integer.bitCount(mind.ahead);
            int ofTen = nineAhead + (mind.step() ? 1 : 0);
            least = Math.min(least, ofTen);
        }
        return least;
    }

    // ---- room

    public int fits(int s, int what) {
        if (s < 1 || s > PAGE_UNITS || what < 0 || what > 1) {
            return NO_SUCH;
        }
        int page = now.findRoom(s);
        if (page < 0) {
            return FULL;
        }
        return what == 0 ? now.moves : page;
    }

    public int sorted(int i) {
        if (i < 0 || i >= PAGES) {
            return NO_SUCH;
        }
        now.lookAtRoom();
        now.sortPages();
        return now.order[i];
    }

    public int free(int page) {
        if (page >= 0 && page < PAGES) {
            return now.freeOf(page);
        }
        switch (page) {
            case -1:
                return now.freeOfAll();
            case -2:
                return now.greatestFree();
            case -3:
                return now.freeOfAll() - now.greatestFree();
            default:
                return NO_SUCH;
        }
    }

    public int runsOut(int r) {
        return isRate(r) ? outBehind(r, now.share) : NO_SUCH;
    }

    public int best(int r) {
        if (r == -1) {
            return bestRate();
        }
        return isRate(r) ? bestShare(r) : NO_SUCH;
    }

    // ---- long rows

    public long number(int t, int i) {
        int refusal = refusalOfSpine(t);
        if (refusal != FINE) {
            return refusedLong(refusal);
        }
        int length = now.gatherLongRow(t, longRow);
        if (i == -1) {
            return length;
        }
        return i >= 0 && i < length ? longRow[i] : refusedLong(NO_SUCH);
    }

    public int same(int d, int t) {
        if (!isShelf(d)) {
            return NO_SUCH;
        }
        int refusal = refusalOfSpine(t);
        if (refusal == FINE) {
            refusal = refusalOfRow(d);
        }
        if (refusal != FINE) {
            return refusal;
        }
        Shelf row = shelves[d];
        int length = now.gatherLongRow(t, longRow);
        int both = Math.min(length, row.length);
        for (int i = 0; i < both; i++) {
            if (row.elements[i] != longRow[i]) {
                return i;
            }
        }
        return length == row.length ? NONE : both;
    }

    public long horner(int t, int x) {
        int refusal = refusalOfSpine(t);
        if (refusal != FINE) {
            return refusedLong(refusal);
        }
        int length = now.gatherLongRow(t, longRow);
        long value = 0;
        for (int i = 0; i < length; i++) {
            // Both the product and the sum must be ints: "each an int exactly".
            value = value * x;
            if (!isInt(value)) {
                return refusedLong(TOO_MUCH);
            }
            value = value + longRow[i];
            if (!isInt(value)) {
                return refusedLong(TOO_MUCH);
            }
        }
        return value;
    }

    // ---- shares told, lost ticks

    public int whatShare(int d) {
        int refusal = refusalOfRow(d);
        if (refusal != FINE) {
            return refusal;
        }
        int shares = 0;
        for (int share = 1; share <= MOST_SHARE; share++) {
            if (runsAsTold(shelves[d], share)) {
                shares |= 1 << share;
            }
        }
        return shares;
    }

    public long lost(int n, int t, int part) {
        if (n < 0 || n > 8 || t < 2 || t > 20 || part < 0 || part > 1) {
            return refusedLong(NO_SUCH);
        }
        int work = workLeft();
        int tries = collectorTicks(n);
        long above = 0;
        long below = 1;
        for (int i = 0; i < tries; i++) {
            below *= t;
        }
        for (int done = work; done <= tries; done++) {
            above += waysOf(tries, done, t - 1);
        }
        return partOf(above, below, part);
    }

    public long used(int part) {
        if (part < 0 || part > 1) {
            return refusedLong(NO_SUCH);
        }
        return partOf(ALL_UNITS - now.freeOfAll(), ALL_UNITS, part);
    }

    public int forged(int d) {
        int refusal = refusalOfRow(d);
        if (refusal != FINE) {
            return refusal;
        }
        Shelf row = shelves[d];
        for (int t = 0; t < row.length; t++) {
            int page = now.has(t) ? now.page[t] : NO_PAGE_TOLD;
            if (row.elements[t] != page) {
                return t;
            }
        }
        return NONE;
    }

    public int judge(int d) {
        int refusal = refusalOfRow(d);
        if (refusal != FINE) {
            return refusal;
        }
        Shelf row = shelves[d];
        mind.takeFrom(now);
        for (int i = 0; i < row.length; i++) {
            if (row.tells(i) && row.elements[i] != mind.freeOfAll()) {
                return i;
            }
            mind.step();
        }
        return NONE;
    }

    public int lots(int n, int z, int what) {
        if (n < 1 || n > 20 || what < 0 || what > 1) {
            return NO_SUCH;
        }
        seed = z;
        int free = 0;
        int things = 0;
        for (int i = 0; i < n; i++) {
            runByLot();
            free += mind.freeOfAll();
            things += Integer.bitCount(mind.bits());
        }
        return what == 0 ? free : things;
    }

    // ---- the image, what is told

    public int image() {
        imaged.takeFrom(now);
        hasImage = true;
        return now.tick;
    }

    public int restore() {
        if (!hasImage) {
            return NOT_SO;
        }
        now.takeFrom(imaged);
        return now.tick;
    }

    public int count(int what) {
        switch (what) {
            case 0:
                return now.bits();
            case 1:
                return now.tick;
            case 2:
                return now.share;
            case 3:
                return now.phase;
            case 4:
                return now.listed;
            case 5:
                return now.phase == SWEEPING ? now.sweptNext : NONE;
            default:
                return what >= 6 && what < 6 + ROOTS ? orNone(now.root[what - 6]) : NO_SUCH;
        }
    }

    // ---- shelves

    public int keep(int d, int what, int k, int figure) {
        if (!isShelf(d) || what < 0 || what > 1) {
            return NO_SUCH;
        }
        if (what == 0) {
            shelves[d].clear();
            return 0;
        }
        if (!isKind(k) || !isFigure(figure)) {
            return NO_SUCH;
        }
        shelves[d].takeThing(kinds[k], figure);
        return 0;
    }

    public int row(int d, int sort, int n) {
        if (!isShelf(d) || sort < BYTES || sort > INTS || n > MOST_ELEMENTS) {
            return NO_SUCH;
        }
        if (n < 0) {
            return SIZE_BELOW_0;
        }
        shelves[d].takeRow(sort, n);
        return 0;
    }

    public int put(int d, int i, int v) {
        int refusal = refusalOfRow(d);
        if (refusal != FINE) {
            return refusal;
        }
        if (!shelves[d].hasPlace(i)) {
            return NO_PLACE;
        }
        shelves[d].elements[i] = lowestBits(shelves[d].sort, v);
        return 0;
    }

    public long element(int d, int i) throws IllegalArgumentException, IllegalStateException {
        if (!isShelf(d)) {
            throw new IllegalArgumentException("no such shelf");
        }
        if (!shelves[d].hasPlace(i)) {
            throw new IllegalStateException("no row, or no such place in it");
        }
        return shelves[d].elements[i];
    }

    public int copy(int d, int i, int e, int j, int n) {
        if (!isShelf(d) || !isShelf(e)) {
            return NO_SUCH;
        }
        Shelf from = shelves[d];
        Shelf to = shelves[e];
        if (from.isEmpty() || to.isEmpty()) {
            return NOTHING_HELD;
        }
        if (!from.isRow() || from.sort != to.sort) {
            return OTHER_KIND;
        }
        if (!from.hasRange(i, n) || !to.hasRange(j, n)) {
            return NO_PLACE;
        }
        System.arraycopy(from.elements, i, to.elements, j, n);
        return n;
    }

    public int cost(int d) {
        int refusal = refusalOfThing(d);
        return refusal != FINE ? refusal : shelves[d].kind.price(shelves[d].figure);
    }

    public int toss(int d) {
        int refusal = refusalOfThing(d);
        if (refusal != FINE) {
            return refusal;
        }
        Shelf shelf = shelves[d];
        try {
            shelf.kind.fail(shelf.figure);
        } catch (IllegalStateException failure) {
            return shelf.kind.failureTold(shelf.figure);
        }
        return NO_FAILURE;
    }

    // ---- what calls and statements share

    private static boolean isShelf(int d) {
        return d >= 0 && d < SHELVES;
    }

    private static boolean isKind(int kind) {
        return kind >= 0 && kind < KINDS;
    }

    private static boolean isFigure(int figure) {
        return figure >= 0 && figure <= MOST_FIGURE;
    }

    private static boolean isRate(int r) {
        return r >= 0 && r <= MOST_RATE;
    }

    private static boolean isInt(long value) {
        return value >= LEAST_INT && value <= GREATEST_INT;
    }

    private static long refusedLong(int refusal) {
        return LONG_REFUSAL - refusal;
    }

    /** What a link or a root is to, as it is told outside. */
    private static int orNone(int t) {
        return t < 0 ? NONE : t;
    }

    private int refusalOfRow(int d) {
        if (!isShelf(d)) {
            return NO_SUCH;
        }
        if (shelves[d].isEmpty()) {
            return NOTHING_HELD;
        }
        return shelves[d].isRow() ? FINE : OTHER_KIND;
    }

    private int refusalOfThing(int d) {
        if (!isShelf(d)) {
            return NO_SUCH;
        }
        if (shelves[d].isEmpty()) {
            return NOTHING_HELD;
        }
        return shelves[d].kind == null ? OTHER_KIND : FINE;
    }

    private int refusalOfSpine(int t) {
        if (!now.has(t)) {
            return NO_SUCH;
        }
        return now.kind[t] instanceof Spine ? FINE : NOT_SO;
    }

    private int makeIn(Heap heap, int kind, int figure) {
        return isKind(kind) && isFigure(figure) ? heap.create(kinds[kind], figure) : NO_SUCH;
    }

    private static int rootIn(Heap heap, int r, int t) {
        if (r < 0 || r >= ROOTS || (t != -1 && !heap.has(t))) {
            return NO_SUCH;
        }
        int old = heap.root[r];
        heap.guard(old);
        heap.root[r] = t;
        return orNone(old);
    }

    private static int linkIn(Heap heap, int t, int l, int to) {
        if (!heap.hasLink(t, l) || (to != -1 && !heap.has(to))) {
            return NO_SUCH;
        }
        int old = heap.link[t * MOST_LINKS + l];
        heap.guard(old);
        heap.link[t * MOST_LINKS + l] = to;
        return orNone(old);
    }

    private static int shareIn(Heap heap, int v) {
        if (v < 1 || v > MOST_SHARE) {
            return NO_SUCH;
        }
        int old = heap.share;
        heap.share = v;
        return old;
    }

    private static int ticksIn(Heap heap, int n) {
        if (n < 1 || n > MOST_TICKS) {
            return NO_SUCH;
        }
        return heap.tick + n > LAST_TICK ? NOT_SO : heap.run(n);
    }

    // ---- a text's statements

    /** Runs, in mind, the statement read last: whether it is as it must be. */
    private boolean runStatement() {
        int a = text.numbers[0];
        int b = text.numbers[1];
        int c = text.numbers[2];
        switch (text.word) {
            case MAKE:
                return makeIn(mind, a, b) >= 0;
            case ROOT:
                return mind.has(b) && rootIn(mind, a, b) != NO_SUCH;
            case DROP:
                return rootIn(mind, a, -1) != NO_SUCH;
            case LINK:
                return mind.has(c) && linkIn(mind, a, b, c) != NO_SUCH;
            case CUT:
                return linkIn(mind, a, b, -1) != NO_SUCH;
            case GO:
                return goInMind();
            case TICK:
                return ticksIn(mind, a) >= 0;
            case SHARE:
                return shareIn(mind, a) >= 0;
            case SET:
                return setInMind(a, b, c);
            default:
                return false;
        }
    }

    private boolean goInMind() {
        if (mind.phase != OFF) {
            return false;
        }
        mind.begin();
        return true;
    }

    private boolean setInMind(int t, int i, int v) {
        if (!mind.hasNumber(t, i)) {
            return false;
        }
        mind.number[t * MOST_NUMBERS + i] = v;
        return true;
    }

    // ---- rates and shares in mind

    /** RUNS OUT by a rate, were SHARE that share. */
    private int outBehind(int rate, int share) {
        mind.takeFrom(now);
        mind.share = share;
        if (mind.phase == OFF) {
            mind.begin();
        }
        int taken = 0;
        for (int n = 1; n <= MOST_IN_MIND; n++) {
            if (mind.step()) {
                taken += rate;
            }
            if (mind.freeOfAll() < taken) {
                return n;
            }
            if (mind.phase == OFF) {
                return NONE;
            }
        }
        return NONE;
    }

    private int bestRate() {
        for (int rate = MOST_RATE; rate >= 0; rate--) {
            if (outBehind(rate, now.share) == NONE) {
                return rate;
            }
        }
        return NONE;
    }

    private int bestShare(int rate) {
        for (int share = MOST_SHARE; share >= 1; share--) {
            if (outBehind(rate, share) == NONE) {
                return share;
            }
        }
        return NONE;
    }

    private boolean runsAsTold(Shelf row, int share) {
        mind.takeFrom(now);
        mind.share = share;
        for (int i = 0; i < row.length; i++) {
            int ran = mind.step() ? 1 : 0;
            if (row.tells(i) && row.elements[i] != ran) {
                return false;
            }
        }
        return true;
    }

    // ---- odds

    /** How many ticks of the collector, none lost, end the collection. */
    private int workLeft() {
        mind.takeFrom(now);
        int work = 0;
        while (mind.phase != OFF && work < MOST_WORK) {
            mind.collect();
            work++;
        }
        return work;
    }

    /** In how many of the next n ticks the collector runs, were the collection never at its end. */
    private int collectorTicks(int n) {
        int ahead = now.ahead;
        int ticks = 0;
        for (int i = 0; i < n; i++) {
            boolean collector = Integer.bitCount(ahead) >= now.share;
            ahead = ((ahead << 1) | (collector ? 0 : 1)) & ALL_AHEAD;
            if (collector) {
                ticks++;
            }
        }
        return ticks;
    }

    /** In how many ways just so many of the tries are done, each in one of so many ways. */
    private static long waysOf(int tries, int done, int ways) {
        long all = 1;
        for (int i = 1; i <= done; i++) {
            all = all * (tries - done + i) / i;
        }
        for (int i = 0; i < done; i++) {
            all *= ways;
        }
        return all;
    }

    /** A part of the fraction in least terms: 0 above, 1 below the line. */
    private static long partOf(long above, long below, int part) {
        long divisor = below;
        long rest = above;
        for (int i = 0; i < 1000 && rest != 0; i++) {
            long next = divisor % rest;
            divisor = rest;
            rest = next;
        }
        if (divisor == 0) {
            return 0;
        }
        return (part == 0 ? above : below) / divisor;
    }

    // ---- programs by lot

    private void runByLot() {
        mind.takeFrom(now);
        for (int i = 0; i < 8; i++) {
            int r = draw(ROOTS);
            if (draw(3) == 0) {
                rootIn(mind, r, -1);
                continue;
            }
            int t = makeIn(mind, 0, 0);
            if (t >= 0) {
                rootIn(mind, r, t);
            }
        }
        mind.run(20);
    }

    private int draw(int below) {
        seed = seed * 1103515245 + 12345;
        return below < 1 ? 0 : ((seed & GREATEST_INT) / 65536) % below;
    }

    private static int lowestBits(int sort, int v) {
        switch (sort) {
            case BYTES:
                return (byte) v;
            case SHORTS:
                return (short) v;
            default:
                return v;
        }
    }

    /**
     * A kind of things. What is not told of one is as of the one it is under: a class below it
     * changes, in its constructor and its methods, only what is told of it.
     */
    private static class Cell {
        final int code;
        int links = 2;
        int numbers = 0;

        Cell(int code) {
            this.code = code;
        }

        int units(int figure) {
            return 2;
        }

        int traced() {
            return links;
        }

        boolean isMovable() {
            return true;
        }

        int price(int figure) {
            return figure;
        }

        /** Throws the FAILURE of one with that figure, if it has one. */
        void fail(int figure) {
            if (figure > 0) {
                throw new IllegalStateException("the failure of a thing");
            }
        }

        int failureTold(int figure) {
            return figure;
        }
    }

    private static class Leaf extends Cell {
        Leaf(int code) {
            super(code);
            links = 0;
            numbers = 4;
        }

        int units(int figure) {
            return 4;
        }

        int price(int figure) {
            return 1;
        }

        void fail(int figure) {
            // Leaves have no FAILURE, whatever their figure.
        }
    }

    private static class Spine extends Cell {
        Spine(int code) {
            super(code);
            links = 3;
        }

        int units(int figure) {
            return 3;
        }

        int price(int figure) {
            return super.price(figure) + 2;
        }

        int failureTold(int figure) {
            return super.failureTold(figure) + 100;
        }
    }

    private static class Pin extends Cell {
        Pin(int code) {
            super(code);
        }

        int units(int figure) {
            return super.units(figure) + figure / 3;
        }

        boolean isMovable() {
            return false;
        }

        int price(int figure) {
            return 0;
        }

        int failureTold(int figure) {
            return 200 + price(figure);
        }
    }

    private static final class Weak extends Cell {
        Weak(int code) {
            super(code);
        }

        int units(int figure) {
            return 1;
        }

        int traced() {
            return 0;
        }

        int price(int figure) {
            return 9;
        }

        void fail(int figure) {
            // Weak ones have no FAILURE, whatever their figure.
        }
    }

    private static final class Big extends Spine {
        Big(int code) {
            super(code);
        }

        int units(int figure) {
            return super.units(figure) + figure;
        }

        int price(int figure) {
            return 2 * super.price(figure);
        }
    }

    private static final class Tail extends Leaf {
        Tail(int code) {
            super(code);
            links = 1;
            numbers = numbers - 2;
        }

        int units(int figure) {
            return super.units(figure) / 2;
        }

        int price(int figure) {
            return super.price(figure) + 3;
        }
    }

    private static final class Hook extends Pin {
        Hook(int code) {
            super(code);
            links = links + 1;
        }

        int price(int figure) {
            return super.price(figure) + 1;
        }
    }

    /** All that there is but the shelves and the image; links and roots to none are -1 in it. */
    private static final class Heap {
        private final Cell[] kind = new Cell[THINGS];
        private final int[] figure = new int[THINGS];
        /** 0 where there is no thing. */
        private final int[] size = new int[THINGS];
        private final int[] page = new int[THINGS];
        private final int[] link = new int[THINGS * MOST_LINKS];
        private final int[] number = new int[THINGS * MOST_NUMBERS];
        private final int[] root = new int[ROOTS];
        private int marks;
        private final int[] list = new int[THINGS];
        private int listed;
        private int tick;
        private int share = FIRST_SHARE;
        /** Who ran in the 9 ticks ahead, the latest lowest: 1 the program. */
        private int ahead = ALL_AHEAD;
        private int phase = OFF;
        private int sweptNext;

        // Rows that calls use again, no part of what there is.
        private final int[] order = new int[PAGES];
        private final int[] room = new int[PAGES];
        private final int[] pageThen = new int[THINGS];
        private int moves;

        Heap() {
            Arrays.fill(root, -1);
            Arrays.fill(link, -1);
        }

        void takeFrom(Heap other) {
            for (int t = 0; t < THINGS; t++) {
                kind[t] = other.kind[t];
                figure[t] = other.figure[t];
                size[t] = other.size[t];
                page[t] = other.page[t];
                list[t] = other.list[t];
            }
            System.arraycopy(other.link, 0, link, 0, THINGS * MOST_LINKS);
            System.arraycopy(other.number, 0, number, 0, THINGS * MOST_NUMBERS);
            System.arraycopy(other.root, 0, root, 0, ROOTS);
            marks = other.marks;
            listed = other.listed;
            tick = other.tick;
            share = other.share;
            ahead = other.ahead;
            phase = other.phase;
            sweptNext = other.sweptNext;
        }

        // -- things

        boolean has(int t) {
            return t >= 0 && t < THINGS && kind[t] != null;
        }

        boolean hasLink(int t, int l) {
            return has(t) && l >= 0 && l < linksOf(t);
        }

        boolean hasNumber(int t, int i) {
            return has(t) && i >= 0 && i < numbersOf(t);
        }

        int codeOf(int t) {
            return has(t) ? kind[t].code : NO_SUCH;
        }

        int linksOf(int t) {
            return has(t) ? kind[t].links : 0;
        }

        int numbersOf(int t) {
            return has(t) ? kind[t].numbers : 0;
        }

        static int bitOf(int t) {
            return t >= 0 && t < THINGS ? 1 << t : 0;
        }

        int bits() {
            int bits = 0;
            for (int t = 0; t < THINGS; t++) {
                if (has(t)) {
                    bits |= bitOf(t);
                }
            }
            return bits;
        }

        int unitsOf(int bits) {
            int units = 0;
            for (int t = 0; t < THINGS; t++) {
                if ((bits & bitOf(t)) != 0) {
                    units += size[t];
                }
            }
            return units;
        }

        /** A new thing: its number, or FULL. */
        int create(Cell newKind, int newFigure) {
            int t = leastNumberLeft();
            if (t < 0 || newKind == null) {
                return FULL;
            }
            int newSize = newKind.units(newFigure);
            int to = findRoom(newSize);
            if (to < 0) {
                return FULL;
            }
            if (moves > 0) {
                System.arraycopy(pageThen, 0, page, 0, THINGS);
            }
            kind[t] = newKind;
            figure[t] = newFigure;
            size[t] = newSize;
            page[t] = to;
            Arrays.fill(link, t * MOST_LINKS, (t + 1) * MOST_LINKS, -1);
            Arrays.fill(number, t * MOST_NUMBERS, (t + 1) * MOST_NUMBERS, 0);
            if (phase != OFF) {
                marks |= bitOf(t);
            }
            return t;
        }

        int leastNumberLeft() {
            for (int t = 0; t < THINGS; t++) {
                if (!has(t)) {
                    return t;
                }
            }
            return NONE;
        }

        // -- room

        int freeOf(int p) {
            int free = PAGE_UNITS;
            for (int t = 0; t < THINGS; t++) {
                if (page[t] == p) {
                    free -= size[t];
                }
            }
            return free;
        }

        int freeOfAll() {
            int free = ALL_UNITS;
            for (int t = 0; t < THINGS; t++) {
                free -= size[t];
            }
            return free;
        }

        int greatestFree() {
            int greatest = 0;
            for (int p = 0; p < PAGES; p++) {
                greatest = Math.max(greatest, freeOf(p));
            }
            return greatest;
        }

        /** Makes ready the rows in which things are moved as if. */
        void lookAtRoom() {
            for (int p = 0; p < PAGES; p++) {
                room[p] = freeOf(p);
            }
            System.arraycopy(page, 0, pageThen, 0, THINGS);
            moves = 0;
        }

        void sortPages() {
            for (int p = 0; p < PAGES; p++) {
                int place = p;
                while (place > 0 && room[order[place - 1]] < room[p]) {
                    order[place] = order[place - 1];
                    place--;
                }
                order[place] = p;
            }
        }

        /** The page a new thing of that size comes to, or FULL; the rows and moves tell what was moved as if. */
        int findRoom(int wanted) {
            lookAtRoom();
            int p = firstWithRoom(wanted);
            if (p >= 0) {
                return p;
            }
            if (freeOfAll() < wanted) {
                return FULL;
            }
            sortPages();
            for (int i = 0; i < PAGES; i++) {
                p = giveAway(order[i], wanted);
                if (p >= 0) {
                    return p;
                }
            }
            return FULL;
        }

        int firstWithRoom(int wanted) {
            for (int p = 0; p < PAGES; p++) {
                if (room[p] >= wanted) {
                    return p;
                }
            }
            return NONE;
        }

        /** Moves things out of a page till some page has room for that size: the first such page, or NONE. */
        int giveAway(int from, int wanted) {
            for (int t = 0; t < THINGS; t++) {
                if (kind[t] == null || pageThen[t] != from || !kind[t].isMovable()) {
                    continue;
                }
                int to = tightestFor(size[t], from);
                if (to < 0) {
                    continue;
                }
                pageThen[t] = to;
                room[from] += size[t];
                room[to] -= size[t];
                moves++;
                int p = firstWithRoom(wanted);
                if (p >= 0) {
                    return p;
                }
            }
            return NONE;
        }

        int tightestFor(int wanted, int from) {
            int best = NONE;
            for (int p = 0; p < PAGES; p++) {
                if (p != from && room[p] >= wanted && (best < 0 || room[p] < room[best])) {
                    best = p;
                }
            }
            return best;
        }

        // -- ticks

        void begin() {
            phase = MARKING;
            for (int r = 0; r < ROOTS; r++) {
                markAndList(root[r]);
            }
        }

        void markAndList(int t) {
            if (t < 0 || t >= THINGS || (marks >> t & 1) != 0 || listed >= THINGS) {
                return;
            }
            marks |= 1 << t;
            list[listed] = t;
            listed++;
        }

        /** THE BARRIER: told what a link or a root was to, ahead of its change. */
        void guard(int old) {
            if (phase == MARKING) {
                markAndList(old);
            }
        }

        /** So many ticks: how many of them the program ran. */
        int run(int n) {
            int ran = 0;
            for (int i = 0; i < n; i++) {
                if (step()) {
                    ran++;
                }
            }
            return ran;
        }

        /** A tick: whether the program ran. */
        boolean step() {
            boolean program = phase == OFF || Integer.bitCount(ahead) < share;
            if (!program) {
                collect();
            }
            ahead = ((ahead << 1) | (program ? 1 : 0)) & ALL_AHEAD;
            tick++;
            return program;
        }

        void collect() {
            if (phase == MARKING) {
                markOn();
            } else if (phase == SWEEPING) {
                sweepOn();
            }
        }

        void markOn() {
            if (listed <= 0) {
                phase = SWEEPING;
                sweptNext = 0;
                return;
            }
            listed--;
            int t = list[listed];
            int traced = has(t) ? kind[t].traced() : 0;
            for (int l = 0; l < traced; l++) {
                markAndList(link[t * MOST_LINKS + l]);
            }
        }

        void sweepOn() {
            for (int t = 0; t < THINGS; t++) {
                if (kind[t] != null && page[t] == sweptNext && (marks >> t & 1) == 0) {
                    forget(t);
                }
            }
            sweptNext++;
            if (sweptNext >= PAGES) {
                sweptNext = 0;
                phase = OFF;
                marks = 0;
            }
        }

        void forget(int gone) {
            kind[gone] = null;
            size[gone] = 0;
            for (int r = 0; r < ROOTS; r++) {
                if (root[r] == gone) {
                    root[r] = -1;
                }
            }
            for (int i = 0; i < THINGS * MOST_LINKS; i++) {
                if (link[i] == gone) {
                    link[i] = -1;
                }
            }
        }

        // -- what is reached

        int reach() {
            return reachBut(NONE, NONE, NONE);
        }

        /** What would be reached without a root, a link (its place in the row), all that is to a thing. */
        int reachBut(int noRoot, int noLink, int noThing) {
            int seen = rootedBut(noRoot) & ~bitOf(noThing);
            for (int i = 0; i < THINGS; i++) {
                int more = onward(seen, noLink) & ~bitOf(noThing);
                if (more == seen) {
                    break;
                }
                seen = more;
            }
            return seen;
        }

        int rootedBut(int noRoot) {
            int bits = 0;
            for (int r = 0; r < ROOTS; r++) {
                if (r != noRoot) {
                    bits |= bitOf(root[r]);
                }
            }
            return bits;
        }

        /** Those seen, and those their traced links are to. */
        int onward(int seen, int noLink) {
            int bits = seen;
            for (int t = 0; t < THINGS; t++) {
                if ((seen & bitOf(t)) == 0 || kind[t] == null) {
                    continue;
                }
                int traced = kind[t].traced();
                for (int l = 0; l < traced; l++) {
                    if (t * MOST_LINKS + l != noLink) {
                        bits |= bitOf(link[t * MOST_LINKS + l]);
                    }
                }
            }
            return bits;
        }

        int depthOf(int t) {
            int seen = rootedBut(NONE);
            for (int depth = 0; depth < THINGS; depth++) {
                if ((seen & bitOf(t)) != 0) {
                    return depth;
                }
                seen = onward(seen, NONE);
            }
            return NONE;
        }

        // -- long rows

        /** Writes the long row of a spine into a row: how many numbers it has. */
        int gatherLongRow(int spine, int[] longRow) {
            int length = 0;
            for (int l = 0; l < linksOf(spine); l++) {
                int t = link[spine * MOST_LINKS + l];
                if (!has(t) || !(kind[t] instanceof Leaf)) {
                    continue;
                }
                for (int i = 0; i < numbersOf(t) && length < longRow.length; i++) {
                    longRow[length] = number[t * MOST_NUMBERS + i];
                    length++;
                }
            }
            return length;
        }
    }

    /** A shelf: nothing, a thing that is nowhere yet (kind), or a row (sort). */
    private static final class Shelf {
        private static final int NO_ROW = -1;

        private Cell kind;
        private int figure;
        private int sort = NO_ROW;
        private int length;
        private final int[] elements = new int[MOST_ELEMENTS];

        void clear() {
            kind = null;
            figure = 0;
            sort = NO_ROW;
            length = 0;
        }

        void takeThing(Cell newKind, int newFigure) {
            clear();
            kind = newKind;
            figure = newFigure;
        }

        void takeRow(int newSort, int newLength) {
            clear();
            sort = newSort;
            length = newLength;
            Arrays.fill(elements, 0);
        }

        boolean isRow() {
            return sort != NO_ROW;
        }

        boolean isEmpty() {
            return kind == null && !isRow();
        }

        boolean hasPlace(int i) {
            return isRow() && i >= 0 && i < length;
        }

        boolean hasRange(int from, int n) {
            return from >= 0 && n >= 0 && n <= length && from <= length - n;
        }

        /** Whether the row tells something at a place: the least number of its kind is skipped. */
        boolean tells(int i) {
            int least = LEAST_INT;
            if (sort == BYTES) {
                least = LEAST_BYTE;
            } else if (sort == SHORTS) {
                least = LEAST_SHORT;
            }
            return hasPlace(i) && elements[i] != least;
        }
    }

    /** Reads the text of a program, a statement at a time. */
    private static final class Text {
        private static final int NO_FAULT = -1;
        private static final int MOST_DIGITS = 3;

        /** The statement read last. */
        private int word;
        private final int[] numbers = new int[3];

        /** The place of the first byte with which no program can go on, or NO_FAULT. */
        int faultOf(Shelf row) {
            int place = 0;
            for (int i = 0; i <= MOST_ELEMENTS; i++) {
                int next = readStatement(row, place);
                if (next < 0) {
                    return -1 - next;
                }
                if (next == row.length) {
                    return NO_FAULT;
                }
                if (byteAt(row, next) != ';') {
                    return next;
                }
                place = next + 1;
            }
            return place;
        }

        /** The place behind the statement, or -1 less the place of its fault. */
        int readStatement(Shelf row, int from) {
            int place = readWord(row, from);
            if (place < 0) {
                return place;
            }
            int wanted = numbersWanted();
            for (int i = 0; i < numbers.length; i++) {
                numbers[i] = 0;
            }
            for (int i = 0; i < wanted && i < numbers.length; i++) {
                place = readNumber(row, place, i);
                if (place < 0) {
                    return place;
                }
            }
            return place;
        }

        /** How many numbers stand behind the word read last. */
        int numbersWanted() {
            return word >= 0 && word < NUMBERS_OF_WORD.length ? NUMBERS_OF_WORD[word] : 0;
        }

        /** No word begins another one, so the one that stands there whole is the one meant. */
        int readWord(Shelf row, int from) {
            int longest = 0;
            for (int w = 0; w < WORDS; w++) {
                int alike = lettersAlike(row, from, wordOf(w));
                if (alike == wordOf(w).length()) {
                    word = w;
                    return from + alike;
                }
                longest = Math.max(longest, alike);
            }
            return -1 - (from + longest);
        }

        int lettersAlike(Shelf row, int from, String letters) {
            int alike = 0;
            while (alike < letters.length() && byteAt(row, from + alike) == letters.charAt(alike)) {
                alike++;
            }
            return alike;
        }

        int readNumber(Shelf row, int from, int which) {
            if (byteAt(row, from) != ' ') {
                return -1 - from;
            }
            int place = from + 1;
            if (!isDigit(byteAt(row, place))) {
                return -1 - place;
            }
            int value = 0;
            for (int i = 0; i < MOST_DIGITS && isDigit(byteAt(row, place)); i++) {
                value = value * 10 + byteAt(row, place) - '0';
                place++;
            }
            numbers[which] = value;
            return place;
        }

        static boolean isDigit(int sign) {
            return sign >= '0' && sign <= '9';
        }

        /** The byte at a place; -1, which no word, number or mark has, behind the end. */
        static int byteAt(Shelf row, int place) {
            return row.hasPlace(place) ? row.elements[place] : -1;
        }

        static String wordOf(int w) {
            switch (w) {
                case MAKE:
                    return "make";
                case ROOT:
                    return "root";
                case DROP:
                    return "drop";
                case LINK:
                    return "link";
                case CUT:
                    return "cut";
                case GO:
                    return "go";
                case TICK:
                    return "tick";
                case SHARE:
                    return "share";
                default:
                    return "set";
            }
        }
    }
}
