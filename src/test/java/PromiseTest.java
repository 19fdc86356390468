/**
 * The promises of the document one by one, with answers worked out by hand: ordinary calls, the
 * edges that the document names, and each refusal in the order in which it is told.
 */
public final class PromiseTest {
    private static final int CELL = 0;
    private static final int LEAF = 1;
    private static final int SPINE = 2;
    private static final int PIN = 3;
    private static final int WEAK = 4;
    private static final int BIG = 5;
    private static final int TAIL = 6;
    private static final int HOOK = 7;
    private static final long REFUSED = 10000000000L;

    private static int promise = 0;
    private static int checks = 0;
    private static int wrong = 0;

    public static void main(String[] args) {
        promise1();
        promise2();
        promise3();
        promise4();
        promise5();
        promise6();
        promise7();
        promise8();
        promise9();
        promise10();
        promise11();
        promise12();
        promise13();
        promise14();
        promise15();
        promise16();
        promise17();
        promise18();
        promise19();
        promise20();
        promise21();
        promise22();
        promise23();
        promise24();
        promise25();
        promise26();
        promise27();
        promise28();
        promise29();
        promise30();
        promise31();
        promise32();
        promise33();
        promise34();
        promise35();
        promise36();
        promise37();
        promise38();
        promise39();
        promise40();
        promise41();
        promise42();
        promise43();
        promise44();
        System.out.println(checks + " checks, " + wrong + " wrong");
        if (wrong != 0 || promise != 44) {
            System.exit(1);
        }
    }

    private static void begin(int number) {
        if (number != promise + 1) {
            throw new AssertionError("promises are tested in their order");
        }
        promise = number;
    }

    private static void is(long due, long got) {
        checks++;
        if (due != got) {
            wrong++;
            int line = new Throwable().getStackTrace()[1].getLineNumber();
            System.out.println("promise " + promise + ", line " + line + ": answered " + got + ", due is " + due);
        }
    }

    // ---- helpers

    private static void write(PromisedShare x, int d, String text) {
        x.row(d, 0, text.length());
        for (int i = 0; i < text.length(); i++) {
            x.put(d, i, text.charAt(i));
        }
    }

    private static int run(PromisedShare x, String text) {
        write(x, 0, text);
        int answer = x.program(0);
        x.keep(0, 0, 0, 0);
        return answer;
    }

    /** A new object behind programs; they must be without fault. */
    private static PromisedShare after(String... texts) {
        PromisedShare x = new PromisedShare();
        for (String text : texts) {
            int answer = run(x, text);
            if (answer < 0) {
                throw new AssertionError(text + " answered " + answer);
            }
        }
        return x;
    }

    private static void row(PromisedShare x, int d, int sort, int... elements) {
        x.row(d, sort, elements.length);
        for (int i = 0; i < elements.length; i++) {
            x.put(d, i, elements[i]);
        }
    }

    private static int elementThrows(PromisedShare x, int d, int i) {
        try {
            x.element(d, i);
            return 0;
        } catch (IllegalArgumentException e) {
            return 1;
        } catch (IllegalStateException e) {
            return 2;
        }
    }

    private static int bits(int... things) {
        int bits = 0;
        for (int t : things) {
            bits |= 1 << t;
        }
        return bits;
    }

    /** Shelf 1 holds nothing, shelf 2 a thing, shelf 3 bytes, shelf 4 shorts, shelf 5 ints. */
    private static void fillShelves(PromisedShare x) {
        x.keep(1, 0, 0, 0);
        x.keep(2, 1, CELL, 3);
        x.row(3, 0, 4);
        x.row(4, 1, 4);
        x.row(5, 2, 4);
    }

    /**
     * 6 BIG ones of 7 UNITS, one a page, and behind them two of 4 UNITS, of kinds told, in pages 0
     * and 1; then 0 and 1 are collected: 8 free in pages 0 and 1, 5 in the others.
     */
    private static PromisedShare twoEmptied(String sixth, String seventh) {
        return after(
            "make 5 4;make 5 4;make 5 4;make 5 4;make 5 4;make 5 4",
            "make " + sixth + ";make " + seventh + ";root 0 2;link 2 0 3;link 2 1 4;link 2 2 5;root 1 6;root 2 7",
            "share 1;go;tick 14;share 7");
    }

    /** The words of the document for 20 ticks and draws, by calls alone. */
    private static int lotsByCalls(PromisedShare x, int n, int z, int what) {
        x.image();
        long seed = z;
        int sum = 0;
        for (int i = 0; i < n; i++) {
            for (int k = 0; k < 8; k++) {
                seed = (int) (seed * 1103515245L + 12345L);
                int r = (int) ((seed & 0x7fffffffL) / 65536 % 4);
                seed = (int) (seed * 1103515245L + 12345L);
                if ((seed & 0x7fffffffL) / 65536 % 3 == 0) {
                    x.root(r, -1);
                } else {
                    int t = x.make(CELL, 0);
                    if (t >= 0) {
                        x.root(r, t);
                    }
                }
            }
            x.ticks(20);
            sum += what == 0 ? x.free(-1) : Integer.bitCount(x.count(0));
            x.restore();
        }
        return sum;
    }

    // ---- promises

    private static void promise1() {
        begin(1);
        PromisedShare x = new PromisedShare();
        is(0, x.count(0));
        is(0, x.count(1));
        is(7, x.count(2));
        is(0, x.count(3));
        is(0, x.count(4));
        for (int what = 5; what <= 9; what++) {
            is(-4, x.count(what));
        }
        is(72, x.free(-1));
        is(-3, x.restore());
        for (int d = 0; d < 8; d++) {
            is(-11, x.cost(d));
        }
        is(10, x.least(60));
        is(0, x.reached(3));
    }

    private static void faultsOfLetters() {
        String[] texts = {
            "", "x", " go", "Go", ";go", "m", "ma", "mak", "make", "make ", "make 1", "make 1 ", "make  1 1",
            "make x", "make 1x", "make 1,1", "make 1 1 ", "make 1 1 1", "make 1 1;", "make 1 1;;go", "make 1000 1", "make 1 1000",
            "make -1 0", "makes 1 1", "mk", "r", "roo", "rot", "root 0", "root 0;go", "d", "drob", "drop", "drop 1 ",
            "l", "li", "lo", "link 1 1", "link 1 1;", "link 1 1 1 1", "c", "cu", "cat", "cut 1", "cut 1 1 1",
            "g", "ga", "go ", "go 1", "gone", "go;", "go;g", "go,go", "go ;go", "t", "tack", "tick", "tick;", "tick 0000",
            "s", "sx", "sh", "sat", "sha", "shore", "share", "share 1 1", "se", "sex", "set 1 1", "set 1 1 1 ", "make 9 9;x"};
        int[] places = {
            0, 0, 0, 0, 0, 1, 2, 3, 4, 5, 6, 7, 5,
            5, 6, 6, 8, 8, 9, 9, 8, 10,
            5, 4, 1, 1, 3, 2, 6, 6, 1, 3, 4, 6,
            1, 2, 1, 8, 8, 10, 1, 2, 1, 5, 7,
            1, 1, 2, 2, 2, 3, 4, 2, 2, 1, 1, 4, 4, 8,
            1, 1, 2, 1, 3, 2, 5, 7, 2, 2, 7, 9, 9};
        for (int i = 0; i < texts.length; i++) {
            PromisedShare x = new PromisedShare();
            int got = run(x, texts[i]);
            if (got != -1000 - places[i]) {
                System.out.println("the text is: " + texts[i]);
            }
            is(-1000 - places[i], got);
            is(0, x.count(0));
            is(0, x.count(3));
        }
    }

    private static void faultsOfStatements() {
        String[] texts = {
            "make 8 0", "make 0 10", "make 7 9;make 0 999", "root 0 0", "make 0 0;root 4 0", "make 0 0;root 0 0;root 0 1",
            "drop 4", "make 0 0;link 0 2 0", "make 0 0;link 0 0 1", "make 0 0;link 1 0 0", "make 0 0;link 0 0 16",
            "make 0 0;cut 0 2", "cut 0 0", "make 1 0;link 0 0 0", "go;go", "tick 0", "tick 61", "share 0", "share 11",
            "set 0 0 0", "make 1 0;set 0 4 0", "make 0 0;set 0 0 0", "make 6 0;set 0 2 0", "make 6 0;set 0 1 0;root 9 9;make 9 9",
            "go;tick 1;tick 1;go"};
        int[] places = {
            0, 0, 9, 0, 9, 18,
            0, 9, 9, 9, 9,
            9, 0, 9, 3, 0, 0, 0, 0,
            0, 9, 9, 9, 19,
            17};
        for (int i = 0; i < texts.length; i++) {
            PromisedShare x = new PromisedShare();
            int got = run(x, texts[i]);
            if (got != -2000 - places[i]) {
                System.out.println("the text is: " + texts[i]);
            }
            is(-2000 - places[i], got);
            is(0, x.count(0));
            is(0, x.count(1));
            is(7, x.count(2));
            is(0, x.count(3));
            is(-4, x.count(6));
        }
    }

    private static void promise2() {
        begin(2);
        faultsOfLetters();
        faultsOfStatements();

        PromisedShare x = new PromisedShare();
        is(5, run(x, "make 2 3;make 001 000;root 3 0;link 0 1 1;set 1 2 70"));
        is(SPINE, x.thing(0, 0));
        is(3, x.thing(0, 1));
        is(LEAF, x.thing(1, 0));
        is(0, x.count(9));
        is(1, x.linked(0, 1));
        is(70, x.number(0, 2));
        is(4, run(x, "share 9;go;tick 1;drop 3"));
        is(9, x.count(2));
        is(1, x.count(1));
        is(-4, x.count(9));
        is(1, run(x, "cut 0 1"));
        is(-4, x.linked(0, 1));
        is(2, run(x, "drop 0;cut 0 0"));

        // The letters' fault is told ahead of a statement's, and with one nothing comes.
        is(-2009, run(x, "make 0 0;make 9 0"));
        is(bits(0, 1), x.count(0));

        // FULL, no number left, TICK above 999.
        PromisedShare full = after("make 5 9;make 5 9;make 5 9;make 5 9;make 5 9;make 5 9");
        is(-2003, run(full, "go;make 4 0"));
        is(0, full.count(3));
        PromisedShare sixteen = after("make 4 0;make 4 0;make 4 0;make 4 0;make 4 0;make 4 0;make 4 0;make 4 0",
            "make 4 0;make 4 0;make 4 0;make 4 0;make 4 0;make 4 0;make 4 0");
        is(-2009, run(sixteen, "make 4 0;make 4 0"));
        is(15, Integer.bitCount(sixteen.count(0)));
        PromisedShare late = new PromisedShare();
        for (int i = 0; i < 16; i++) {
            is(60, late.ticks(60));
        }
        is(-2008, run(late, "tick 30;tick 10"));
        is(2, run(late, "tick 30;tick 9"));
        is(999, late.count(1));
        is(-2000, run(late, "tick 1"));

        // The longest text that a row can hold.
        StringBuilder longest = new StringBuilder("drop 000");
        for (int i = 0; i < 13; i++) {
            longest.append(";drop ").append(i % 4);
        }
        PromisedShare y = new PromisedShare();
        is(99, longest.length());
        is(14, run(y, longest.toString()));
        is(-1100, run(y, longest + ";"));

        fillShelves(x);
        is(-1, x.program(-1));
        is(-1, x.program(8));
        is(-11, x.program(1));
        is(-12, x.program(2));
        is(-12, x.program(4));
        is(-12, x.program(5));
        is(-1000, x.program(3));
        row(x, 3, 0, -1);
        is(-1000, x.program(3));
        row(x, 3, 0, 'g', 'o', -128);
        is(-1002, x.program(3));
    }

    private static void promise3() {
        begin(3);
        int[] links = {2, 0, 3, 2, 2, 3, 1, 3};
        int[] numbers = {0, 4, 0, 0, 0, 0, 2, 0};
        int[] sizesOf0 = {2, 4, 3, 2, 1, 3, 2, 2};
        int[] sizesOf5 = {2, 4, 3, 3, 1, 8, 2, 3};
        int[] sizesOf9 = {2, 4, 3, 5, 1, 12, 2, 5};
        int[] figures = {0, 5, 9};
        int[][] sizes = {sizesOf0, sizesOf5, sizesOf9};
        for (int kind = 0; kind < 8; kind++) {
            for (int i = 0; i < 3; i++) {
                PromisedShare x = new PromisedShare();
                x.make(kind, figures[i]);
                is(kind, x.thing(0, 0));
                is(figures[i], x.thing(0, 1));
                is(sizes[i][kind], x.thing(0, 2));
                is(0, x.thing(0, 3));
                is(0, x.thing(0, 4));
                is(links[kind], x.thing(0, 5));
                is(numbers[kind], x.thing(0, 6));
                is(-4, x.thing(0, 7));
                is(12 - sizes[i][kind], x.free(0));
            }
        }
        // The page, the mark, the depth: the nearest root counts; what only a WEAK one links to has none.
        PromisedShare x = after("make 5 9;make 0 0;make 4 0;make 0 0;make 0 0",
            "root 0 0;root 1 0;link 0 0 1;link 1 0 2;link 2 0 3;link 1 1 4;link 4 0 0");
        is(1, x.thing(1, 3));
        is(0, x.thing(0, 7));
        is(1, x.thing(1, 7));
        is(2, x.thing(2, 7));
        is(-4, x.thing(3, 7));
        is(2, x.thing(4, 7));
        x.root(3, 4);
        is(0, x.thing(4, 7));
        is(0, x.thing(0, 7));
        x.root(0, -1);
        x.root(1, -1);
        is(1, x.thing(0, 7));
        is(3, x.thing(2, 7));
        x.begins();
        is(1, x.thing(4, 4));
        is(0, x.thing(0, 4));
        is(-1, x.thing(-1, 0));
        is(-1, x.thing(5, 0));
        is(-1, x.thing(16, 0));
        is(-1, x.thing(0, -1));
        is(-1, x.thing(0, 8));
        is(-1, x.thing(99, 99));
    }

    private static void promise4() {
        begin(4);
        PromisedShare x = new PromisedShare();
        is(-1, x.make(-1, 0));
        is(-1, x.make(8, 0));
        is(-1, x.make(0, -1));
        is(-1, x.make(0, 10));
        // The first page with room, not the fullest.
        is(0, x.make(BIG, 8));
        is(1, x.make(CELL, 0));
        is(2, x.make(WEAK, 0));
        is(0, x.thing(0, 3));
        is(1, x.thing(1, 3));
        is(0, x.thing(2, 3));

        // The least number that none has, with links and numbers as new.
        PromisedShare y = after("make 0 0;make 2 0;make 1 0;root 0 0;root 1 2;link 1 0 0;set 2 0 5;share 1;go;tick 9;tick 9");
        is(bits(0, 2), y.count(0));
        is(1, y.make(SPINE, 0));
        is(-4, y.linked(1, 0));
        y.root(1, -1);
        y.begins();
        y.ticks(20);
        is(bits(0), y.count(0));
        is(1, y.make(LEAF, 0));
        is(2, y.make(SPINE, 0));
        y.link(2, 0, 1);
        is(0, y.number(2, 0));

        // MARKED if new while MARKING or SWEEPING, not PUT.
        PromisedShare m = new PromisedShare();
        m.make(CELL, 0);
        m.begins();
        is(1, m.make(CELL, 0));
        is(bits(1), m.reached(3));
        is(0, m.count(4));
        m.ticks(1);
        is(2, m.count(3));
        is(2, m.make(CELL, 0));
        is(bits(1, 2), m.reached(3));
        m.ticks(60);
        is(bits(1, 2), m.count(0));
        is(0, m.reached(3));

        // One is moved to the page of least room that is enough, and the new one comes to its page.
        PromisedShare leaves = twoEmptied("1 0", "1 1");
        is(bits(2, 3, 4, 5, 6, 7), leaves.count(0));
        is(0, leaves.make(BIG, 9));
        is(0, leaves.thing(0, 3));
        is(2, leaves.thing(6, 3));
        is(1, leaves.thing(7, 3));
        is(1, leaves.make(BIG, 9));
        is(1, leaves.thing(1, 3));
        is(3, leaves.thing(7, 3));
        // 12 free in four pages (1, 1, 5, 5), none of them with 6: FULL, nothing moved.
        is(-2, leaves.make(BIG, 3));
        is(2, leaves.thing(6, 3));
        is(3, leaves.thing(7, 3));
        is(12, leaves.free(-1));

        // A PIN stays, and so does a HOOK: the next page gives.
        PromisedShare pin = twoEmptied("3 6", "1 0");
        is(0, pin.make(BIG, 9));
        is(1, pin.thing(0, 3));
        is(0, pin.thing(6, 3));
        is(2, pin.thing(7, 3));
        PromisedShare hook = twoEmptied("7 8", "3 7");
        is(0, hook.make(BIG, 9));
        is(2, hook.thing(0, 3));
        is(0, hook.thing(2, 3));
        is(0, hook.thing(6, 3));
        is(1, hook.thing(7, 3));

        // FULL as no page comes to have room, though all together have: what was given stays where it was.
        PromisedShare stays = after("make 5 6;make 5 6;make 5 6;make 5 6;make 5 6;make 5 6;make 0 0");
        is(16, stays.free(-1));
        is(-2, stays.make(LEAF, 0));
        is(0, stays.thing(6, 3));
        is(7, stays.make(SPINE, 0));

        // No number left.
        PromisedShare many = new PromisedShare();
        for (int i = 0; i < 16; i++) {
            is(i, many.make(WEAK, 0));
        }
        is(-2, many.make(WEAK, 0));
        is(-1, many.make(8, 0));
        is(56, many.free(-1));
    }

    private static void promise5() {
        begin(5);
        PromisedShare x = new PromisedShare();
        fillShelves(x);
        is(-1, x.comes(-1));
        is(-1, x.comes(8));
        is(-11, x.comes(1));
        is(-12, x.comes(3));
        is(0, x.comes(2));
        is(1, x.comes(2));
        is(0, x.thing(1, 0));
        is(3, x.thing(1, 1));
        x.keep(2, 1, BIG, 9);
        is(2, x.comes(2));
        is(12, x.thing(2, 2));
        is(1, x.thing(2, 3));
        is(3, x.comes(2));
        is(4, x.comes(2));
        is(5, x.comes(2));
        is(6, x.comes(2));
        is(-2, x.comes(2));
        x.begins();
        x.keep(2, 1, WEAK, 0);
        is(7, x.comes(2));
        is(1, x.thing(7, 4));
        for (int i = 8; i < 16; i++) {
            is(i == 15 ? -2 : i, x.comes(2));
        }
    }

    private static void promise6() {
        begin(6);
        PromisedShare x = after("make 0 0;make 0 0;make 0 0");
        is(-1, x.root(-1, 0));
        is(-1, x.root(4, 0));
        is(-1, x.root(0, 3));
        is(-1, x.root(0, -2));
        is(-1, x.root(0, 16));
        is(-4, x.root(3, 2));
        is(2, x.count(9));
        is(2, x.root(3, 2));
        is(2, x.root(3, 0));
        is(0, x.root(3, -1));
        is(-4, x.root(3, -1));
        is(-4, x.count(9));

        // THE BARRIER, while it is MARKING alone.
        x.root(0, 0);
        x.root(1, 1);
        x.link(0, 0, 2);
        is(2, x.begins());
        x.ticks(2);
        is(bits(0, 1, 2), x.reached(3));
        x.ticks(1);
        is(0, x.count(4));
        is(1, x.count(3));
        PromisedShare y = after("make 0 0;make 0 0;go;root 0 1");
        is(0, y.reached(3));
        is(1, y.root(0, 1));
        is(bits(1), y.reached(3));
        is(1, y.count(4));
        is(1, y.root(0, -1));
        is(1, y.count(4));
        PromisedShare z = after("make 0 0;make 0 0;go;tick 1;root 0 1");
        is(2, z.count(3));
        is(1, z.root(0, 0));
        is(0, z.reached(3));
        z.ticks(60);
        is(-4, z.count(6));
    }

    private static void promise7() {
        begin(7);
        PromisedShare x = after("make 0 0;make 2 0;make 6 0;make 7 0;make 1 0");
        is(-1, x.link(-1, 0, 0));
        is(-1, x.link(5, 0, 0));
        is(-1, x.link(0, -1, 0));
        is(-1, x.link(0, 2, 0));
        is(-1, x.link(1, 3, 0));
        is(-1, x.link(2, 1, 0));
        is(-1, x.link(3, 3, 0));
        is(-1, x.link(4, 0, 0));
        is(-1, x.link(0, 0, 5));
        is(-1, x.link(0, 0, -2));
        is(-4, x.link(0, 1, 0));
        is(-4, x.link(1, 2, 4));
        is(-4, x.link(2, 0, 3));
        is(-4, x.link(3, 2, 2));
        is(4, x.link(1, 2, 3));
        is(3, x.link(1, 2, 3));
        is(3, x.link(1, 2, -1));
        is(-4, x.link(1, 2, -1));

        // THE BARRIER, of links that are not traced, too.
        PromisedShare y = after("make 0 0;make 4 0;make 0 0;make 0 0;link 0 1 2;link 1 0 3;go");
        is(2, y.link(0, 1, -1));
        is(bits(2), y.reached(3));
        is(3, y.link(1, 0, 3));
        is(bits(2, 3), y.reached(3));
        is(2, y.count(4));
        is(3, y.link(1, 0, 0));
        is(2, y.count(4));
    }

    private static void promise8() {
        begin(8);
        PromisedShare x = after("make 0 0;make 1 0;link 0 1 1");
        is(-4, x.linked(0, 0));
        is(1, x.linked(0, 1));
        is(-1, x.linked(0, 2));
        is(-1, x.linked(0, -1));
        is(-1, x.linked(1, 0));
        is(-1, x.linked(2, 0));
        is(-1, x.linked(-1, 0));
        // A link to one that is gone is to none.
        PromisedShare y = after("make 0 0;make 0 0;make 0 0;make 4 0;root 0 3;link 3 0 1;share 1;go;tick 20");
        is(bits(3), y.count(0));
        is(-4, y.linked(3, 0));
    }

    private static void promise9() {
        begin(9);
        PromisedShare x = after("make 1 0;make 6 0;make 2 0;link 2 0 0;link 2 1 1");
        is(0, x.set(0, 3, -2147483648));
        is(-2147483648L, x.set(0, 3, 7));
        is(0, x.set(1, 1, 2147483647));
        is(2147483647L, x.set(1, 1, 1));
        is(7, x.number(2, 3));
        is(1, x.number(2, 5));
        is(REFUSED + 1, x.set(0, 4, 1));
        is(REFUSED + 1, x.set(0, -1, 1));
        is(REFUSED + 1, x.set(1, 2, 1));
        is(REFUSED + 1, x.set(2, 0, 1));
        is(REFUSED + 1, x.set(3, 0, 1));
        is(REFUSED + 1, x.set(-1, 0, 1));
    }

    private static void promise10() {
        begin(10);
        PromisedShare x = after("make 0 0;make 0 0;make 0 0;root 0 1;root 1 2;root 3 1;link 1 0 0");
        is(2, x.begins());
        is(bits(1, 2), x.reached(3));
        is(2, x.count(4));
        is(1, x.count(3));
        is(-3, x.begins());
        // The one put latest is taken first: 2, then 1, whose link marks 0.
        x.ticks(1);
        is(1, x.count(4));
        is(bits(1, 2), x.reached(3));
        x.ticks(1);
        is(bits(0, 1, 2), x.reached(3));
        is(1, x.count(4));
        PromisedShare y = new PromisedShare();
        is(0, y.begins());
        y.ticks(1);
        is(-3, y.begins());
        y.ticks(19);
        is(-3, y.begins());
        y.ticks(1);
        is(0, y.begins());
    }

    private static void promise11() {
        begin(11);
        PromisedShare x = new PromisedShare();
        is(7, x.share(1));
        is(1, x.share(10));
        is(-1, x.share(0));
        is(-1, x.share(11));
        is(10, x.share(10));
        is(10, x.count(2));
        x.begins();
        is(60, x.ticks(60));
        is(10, x.share(9));
        // Of 9 ahead all 9: the collector, then 9 ticks of the program.
        is(0, x.ticks(1));
        is(9, x.ticks(9));
        is(0, x.ticks(1));
    }

    private static void promise12() {
        begin(12);
        PromisedShare x = new PromisedShare();
        is(-1, x.ticks(0));
        is(-1, x.ticks(61));
        is(-1, x.ticks(-5));
        is(60, x.ticks(60));
        x.begins();
        is(0, x.ticks(3));
        is(7, x.ticks(7));
        is(0, x.ticks(3));
        is(7, x.ticks(7));
        // The 7th tick of the collector is its last: one turn, six pages.
        is(2, x.count(3));
        is(5, x.count(5));
        is(0, x.ticks(1));
        is(0, x.count(3));
        is(60, x.ticks(60));
        is(141, x.count(1));
        for (int i = 0; i < 14; i++) {
            x.ticks(60);
        }
        is(981, x.count(1));
        is(-3, x.ticks(19));
        is(-1, x.ticks(61));
        is(18, x.ticks(18));
        is(999, x.count(1));
        is(-3, x.ticks(1));

        // Pages are swept in turn; a thing moved behind the sweep would stay, one ahead of it goes.
        PromisedShare y = after("make 5 9;make 5 9;make 5 9;share 1;go;tick 2");
        is(bits(1, 2), y.count(0));
        is(1, y.count(5));
        y.ticks(1);
        is(bits(2), y.count(0));
        y.ticks(1);
        is(0, y.count(0));
        is(3, y.count(5));

        // Share 1: in ten ticks the collector has nine.
        PromisedShare z = after("share 1;go");
        is(0, z.ticks(7));
        is(0, z.count(3));
        is(0, z.begins());
        is(0, z.ticks(2));
        is(1, z.ticks(1));
        is(0, z.ticks(5));
        is(0, z.count(3));
    }

    private static void promise13() {
        begin(13);
        PromisedShare x = after("make 0 0;make 0 0;make 4 0;make 0 0;make 6 0;make 0 0",
            "root 0 0;root 1 2;link 0 0 1;link 1 1 0;link 2 0 3;link 1 0 4;link 4 0 5");
        is(bits(0, 1, 2, 4, 5), x.reached(0));
        is(bits(3), x.reached(1));
        is(0, x.reached(2));
        is(0, x.reached(3));
        x.begins();
        is(bits(0, 2), x.reached(3));
        x.root(1, -1);
        is(bits(2, 3), x.reached(1));
        is(bits(2), x.reached(2));
        is(bits(0, 1, 4, 5), x.reached(0));
        is(-1, x.reached(-1));
        is(-1, x.reached(4));
    }

    private static void promise14() {
        begin(14);
        PromisedShare x = after("make 0 0;make 0 0;make 0 0;make 0 0;make 0 0",
            "root 0 0;link 0 0 1;link 0 1 2;link 1 0 3;link 2 0 3;link 3 0 3;link 4 0 0");
        is(bits(0, 1, 2, 3), x.kept(0));
        is(bits(1), x.kept(1));
        is(bits(2), x.kept(2));
        is(bits(3), x.kept(3));
        is(0, x.kept(4));
        x.link(2, 0, -1);
        is(bits(1, 3), x.kept(1));
        x.root(1, 1);
        is(bits(0, 2), x.kept(0));
        is(bits(1, 3), x.kept(1));
        is(bits(0, 1, 2, 3), x.reached(0));
        is(-1, x.kept(5));
        is(-1, x.kept(-1));
        is(-1, x.kept(16));
    }

    private static void promise15() {
        begin(15);
        PromisedShare x = new PromisedShare();
        is(0, x.cut(0));
        is(0, x.cut(1));
        is(-1, x.cut(2));
        is(-1, x.cut(-1));
        run(x, "make 0 0;make 1 0;make 2 0;make 0 0;root 1 0;root 2 2;link 2 0 1;link 0 0 3");
        // ROOT 1 holds 0 and 3 (4 UNITS), ROOT 2 holds 2 and 1 (7 UNITS).
        is(2, x.cut(0));
        is(7, x.cut(1));
        x.root(3, 1);
        is(1, x.cut(0));
        is(4, x.cut(1));
        x.root(0, 3);
        is(3, x.thing(2, 2));
        is(2, x.cut(0));
        is(3, x.cut(1));
        x.root(0, 0);
        x.root(3, 2);
        is(0, x.cut(0));
        is(0, x.cut(1));
        x.root(3, 3);
        x.root(0, 3);
        x.link(2, 0, -1);
        is(2, x.cut(0));
    }

    private static void promise16() {
        begin(16);
        PromisedShare x = new PromisedShare();
        is(-4, x.snip(0));
        is(-4, x.snip(1));
        is(-1, x.snip(2));
        is(-1, x.snip(-1));
        run(x, "make 0 0;make 2 0;make 1 0;make 1 0;make 4 0;root 0 0;link 0 1 1;link 1 0 2;link 1 2 3");
        // 0 -> 1 (3) -> 2 (4), 3 (4)
        is(1, x.snip(0));
        is(11, x.snip(1));
        x.root(1, 1);
        is(10, x.snip(0));
        is(4, x.snip(1));
        x.link(1, 0, -1);
        is(12, x.snip(0));
        x.link(1, 0, 3);
        is(-4, x.snip(0));
        is(-4, x.snip(1));
        // A WEAK one's links hold nothing.
        x.root(2, 4);
        x.link(4, 0, 2);
        is(-4, x.snip(0));
    }

    private static void promise17() {
        begin(17);
        PromisedShare x = after("make 1 0;make 0 0;make 5 9;root 0 1;go");
        is(54, x.then(0, 0));
        is(bits(0, 1, 2), x.then(0, 1));
        is(-4, x.then(0, 2));
        is(0, x.then(0, 3));
        // Collector in 1, 2, 3 (1 off the list, the turn, page 0), 11 (page 1).
        is(54, x.then(2, 0));
        is(58, x.then(3, 0));
        is(bits(1, 2), x.then(3, 1));
        is(0, x.then(3, 2));
        is(1, x.then(4, 2));
        is(1, x.then(10, 2));
        is(58, x.then(10, 0));
        is(70, x.then(11, 0));
        is(bits(1), x.then(99, 1));
        is(0, x.then(3, 3));
        is(7, x.then(10, 3));
        is(7, x.then(11, 3));
        is(99 - 8, x.then(99, 3));
        is(0, x.count(1));
        is(bits(0, 1, 2), x.count(0));
        for (int i = 0; i < 16; i++) {
            x.ticks(60);
        }
        x.ticks(39);
        is(70, x.then(99, 0));
        is(-1, x.then(-1, 0));
        is(-1, x.then(100, 0));
        is(-1, x.then(0, -1));
        is(-1, x.then(0, 4));
    }

    private static void promise18() {
        begin(18);
        PromisedShare x = new PromisedShare();
        is(0, x.ends());
        x.begins();
        is(21, x.ends());
        x.share(10);
        is(-4, x.ends());
        // Share 9: the collector in 1, 11, .. 61.
        x.share(9);
        is(61, x.ends());
        x.share(1);
        is(7, x.ends());
        x.ticks(2);
        is(5, x.ends());
        // 10 ticks of the collector are wanted by share 9: 1, 11, .. 91; with one more it is behind 99.
        PromisedShare y = after("make 0 0;make 0 0;make 0 0;make 0 0;root 0 0;root 1 1;root 2 2;share 9;go");
        is(91, y.ends());
        PromisedShare z = after("make 0 0;make 0 0;make 0 0;make 0 0;root 0 0;root 1 1;root 2 2;root 3 3;share 9;go");
        is(-4, z.ends());
    }

    private static void promise19() {
        begin(19);
        PromisedShare x = after("make 0 0;make 1 0;make 2 0;make 4 0;make 5 9;root 0 0;root 1 3;link 0 0 1;link 3 0 4");
        is(15, x.gains());
        x.share(10);
        is(15, x.gains());
        x.begins();
        is(-3, x.gains());
        x.share(1);
        x.ticks(4);
        is(2, x.count(3));
        is(-3, x.gains());
        x.ticks(20);
        is(0, x.gains());
        is(72 - 7, x.free(-1));
    }

    private static void promise20() {
        begin(20);
        PromisedShare x = new PromisedShare();
        is(-1, x.least(0));
        is(-1, x.least(61));
        is(10, x.least(1));
        x.begins();
        is(9, x.least(1));
        is(8, x.least(2));
        is(7, x.least(3));
        is(7, x.least(60));
        x.ticks(3);
        is(7, x.least(1));
        x.share(1);
        is(6, x.least(1));
        is(3, x.least(60));
        PromisedShare y = after("share 10;go");
        is(10, y.least(60));
        PromisedShare z = after("make 0 0;make 0 0;make 0 0;make 0 0;root 0 0;root 1 1;root 2 2;share 1;go");
        is(1, z.least(10));
        is(2, z.least(8));
    }

    private static void promise21() {
        begin(21);
        PromisedShare x = new PromisedShare();
        is(-1, x.fits(0, 0));
        is(-1, x.fits(13, 0));
        is(-1, x.fits(1, -1));
        is(-1, x.fits(1, 2));
        is(0, x.fits(12, 0));
        is(0, x.fits(12, 1));
        run(x, "make 5 9;make 5 6;make 4 0");
        is(1, x.fits(2, 1));
        is(2, x.fits(3, 1));
        is(0, x.fits(3, 0));
        PromisedShare leaves = twoEmptied("1 0", "1 1");
        is(0, leaves.fits(8, 0));
        is(0, leaves.fits(8, 1));
        is(1, leaves.fits(9, 0));
        is(0, leaves.fits(9, 1));
        is(1, leaves.fits(12, 0));
        is(0, leaves.thing(6, 3));
        PromisedShare pin = twoEmptied("3 6", "1 0");
        is(1, pin.fits(12, 0));
        is(1, pin.fits(12, 1));
        // Two WEAK ones must leave page 1: the first to page 3, where 1 more is left for the second.
        PromisedShare two = after(
            "make 5 7;make 5 7;make 5 7;make 5 7;make 5 7;make 5 7",
            "make 0 0;make 4 0;make 4 0;root 0 2;link 2 0 3;link 2 1 4;link 2 2 5;root 1 6;root 2 7;root 3 8",
            "share 1;go;tick 20");
        is(1, two.fits(12, 0));
        is(0, two.fits(12, 1));
        is(0, two.make(BIG, 9));
        is(2, two.thing(6, 3));
        is(2, two.fits(12, 0));
        is(1, two.fits(12, 1));
        is(1, two.make(BIG, 9));
        is(3, two.thing(7, 3));
        is(3, two.thing(8, 3));
        is(-2, two.fits(12, 0));
        is(-2, two.fits(12, 1));
        PromisedShare full = after("make 5 9;make 5 9;make 5 9;make 5 9;make 5 9;make 5 9");
        is(-2, full.fits(1, 0));
        is(-2, full.fits(1, 1));
        PromisedShare stays = after("make 5 6;make 5 6;make 5 6;make 5 6;make 5 6;make 5 6;make 0 0");
        is(-2, stays.fits(4, 0));
        is(1, stays.fits(3, 1));
    }

    private static void promise22() {
        begin(22);
        PromisedShare x = new PromisedShare();
        for (int i = 0; i < 6; i++) {
            is(i, x.sorted(i));
        }
        run(x, "make 5 8;make 5 5;make 5 5;make 0 0");
        // Used: 11, 10, 8, 0, 0, 0.
        int[] order = {3, 4, 5, 2, 1, 0};
        for (int i = 0; i < 6; i++) {
            is(order[i], x.sorted(i));
        }
        x.make(CELL, 0);
        // Used: 11, 12, 8, 0, 0, 0.
        is(0, x.sorted(4));
        is(1, x.sorted(5));
        is(-1, x.sorted(-1));
        is(-1, x.sorted(6));
    }

    private static void promise23() {
        begin(23);
        PromisedShare x = after("make 5 9;make 5 6;make 5 5;make 5 4;make 5 3;make 5 8");
        int[] free = {0, 3, 4, 5, 6, 1};
        for (int p = 0; p < 6; p++) {
            is(free[p], x.free(p));
        }
        is(19, x.free(-1));
        is(6, x.free(-2));
        is(13, x.free(-3));
        is(-1, x.free(-4));
        is(-1, x.free(6));
        PromisedShare y = new PromisedShare();
        is(12, y.free(5));
        is(12, y.free(-2));
        is(60, y.free(-3));
    }

    private static void promise24() {
        begin(24);
        PromisedShare x = new PromisedShare();
        is(-1, x.runsOut(-1));
        is(-1, x.runsOut(13));
        // The program's ticks: 4 .. 10, 14 .. 20; OFF behind 21.
        is(10, x.runsOut(12));
        is(-4, x.runsOut(0));
        is(-4, x.runsOut(5));
        is(19, x.runsOut(6));
        is(0, x.count(3));
        // With nothing collected it never ends: behind the 73rd tick 73 are more than 72.
        x.share(10);
        is(73, x.runsOut(1));
        is(-4, x.runsOut(0));
        // What is swept in time is room again; a collection that runs goes on.
        PromisedShare y = after("make 5 9;make 5 9;make 5 9;make 5 9;make 5 9");
        is(12, y.free(-1));
        is(10, y.runsOut(6));
        is(7, y.runsOut(12));
        is(-4, y.runsOut(5));
        y.begins();
        is(10, y.runsOut(6));
        y.ticks(3);
        // 36 are free behind its first 3 ticks.
        is(7, y.runsOut(6));
        is(4, y.runsOut(12));
        is(-4, y.runsOut(5));
        is(36, y.free(-1));
    }

    private static void promise25() {
        begin(25);
        PromisedShare x = new PromisedShare();
        is(5, x.best(-1));
        is(-1, x.best(-2));
        is(-1, x.best(13));
        is(10, x.best(0));
        // Share 9 ends behind 61 with 54 ticks of the program: a rate of 1; 8 behind 31 with 24: 3.
        is(9, x.best(1));
        is(8, x.best(2));
        is(8, x.best(3));
        is(7, x.best(4));
        is(7, x.best(5));
        is(7, x.count(2));
        x.share(1);
        is(12, x.best(-1));
        x.share(10);
        is(0, x.best(-1));
        PromisedShare full = after("make 5 9;make 5 9;make 5 9;make 5 9;make 5 9;make 5 9",
            "root 0 0;link 0 0 1;link 0 1 2;link 0 2 3;link 1 0 4;link 1 1 5");
        is(0, full.best(-1));
        is(-4, full.best(1));
        is(10, full.best(0));
    }

    private static void promise26() {
        begin(26);
        PromisedShare x = after("make 2 0;make 1 0;make 6 0;make 0 0;make 5 1;link 0 0 2;link 0 2 1",
            "set 1 0 10;set 1 3 13;set 2 0 20;set 2 1 21;link 4 0 1;link 4 1 3;link 4 2 1");
        is(6, x.number(0, -1));
        is(20, x.number(0, 0));
        is(21, x.number(0, 1));
        is(10, x.number(0, 2));
        is(13, x.number(0, 5));
        is(8, x.number(4, -1));
        is(13, x.number(4, 7));
        is(10, x.number(4, 4));
        x.set(1, 0, -5);
        is(-5, x.number(4, 0));
        is(REFUSED + 1, x.number(0, 6));
        is(REFUSED + 1, x.number(0, -2));
        is(REFUSED + 1, x.number(5, 0));
        is(REFUSED + 1, x.number(-1, 0));
        is(REFUSED + 3, x.number(3, 0));
        is(REFUSED + 3, x.number(1, 0));
        is(REFUSED + 3, x.number(3, -9));
        x.link(0, 0, -1);
        x.link(0, 2, 4);
        is(0, x.number(0, -1));
        is(REFUSED + 1, x.number(0, 0));
    }

    private static void promise27() {
        begin(27);
        PromisedShare x = after("make 2 0;make 6 0;make 6 0;make 0 0;link 0 0 1;link 0 1 2;set 1 0 1;set 1 1 2;set 2 0 3;set 2 1 4");
        row(x, 0, 0, 1, 2, 3, 4);
        is(-4, x.same(0, 0));
        row(x, 0, 1, 1, 2, 3, 4);
        is(-4, x.same(0, 0));
        row(x, 0, 2, 1, 2, 3, 5);
        is(3, x.same(0, 0));
        row(x, 0, 2, 1, 2, 3);
        is(3, x.same(0, 0));
        row(x, 0, 2, 1, 2, 3, 4, 0);
        is(4, x.same(0, 0));
        row(x, 0, 2, 0);
        is(0, x.same(0, 0));
        row(x, 0, 2);
        is(0, x.same(0, 0));
        x.set(1, 0, 257);
        row(x, 0, 0, 257, 2, 3, 4);
        is(0, x.same(0, 0));
        x.set(1, 0, -128);
        row(x, 0, 0, -128, 2, 3, 4);
        is(-4, x.same(0, 0));
        x.link(0, 0, -1);
        x.link(0, 1, -1);
        row(x, 0, 1);
        is(-4, x.same(0, 0));
        fillShelves(x);
        is(-1, x.same(-1, 0));
        is(-1, x.same(8, 3));
        is(-1, x.same(1, 4));
        is(-1, x.same(2, -1));
        is(-3, x.same(1, 3));
        is(-3, x.same(2, 3));
        is(-11, x.same(1, 0));
        is(-12, x.same(2, 0));
    }

    private static void promise28() {
        begin(28);
        PromisedShare x = after("make 2 0;make 6 0;make 6 0;make 0 0");
        is(0, x.horner(0, 5));
        run(x, "link 0 0 1;link 0 1 2;set 1 0 1;set 1 1 2;set 2 0 3;set 2 1 4");
        is(1234, x.horner(0, 10));
        is(4, x.horner(0, 0));
        is(-1 + 2 - 3 + 4, x.horner(0, -1));
        is(REFUSED + 1, x.horner(4, 1));
        is(REFUSED + 3, x.horner(3, 1));
        is(REFUSED + 3, x.horner(1, 1));
        is(REFUSED + 5, x.horner(0, 100000));
        // Sums: 1, then 1 more than the greatest int; and the least int, and 1 less.
        x.link(0, 1, -1);
        x.set(1, 0, 2147483647);
        x.set(1, 1, 0);
        is(2147483647, x.horner(0, 1));
        x.set(1, 1, 1);
        is(REFUSED + 5, x.horner(0, 1));
        x.set(1, 1, -1);
        is(-2147483648L, x.horner(0, -1));
        x.set(1, 1, -2);
        is(REFUSED + 5, x.horner(0, -1));
        // The product is one more than the greatest int: TOO MUCH, though the sum would be one.
        x.set(1, 0, 1073741824);
        x.set(1, 1, -1);
        is(REFUSED + 5, x.horner(0, 2));
        is(REFUSED + 5, x.horner(0, -2));
        x.set(1, 1, 0);
        is(-2147483648L, x.horner(0, -2));
        x.set(1, 0, -2147483648);
        is(REFUSED + 5, x.horner(0, -1));
    }

    private static void promise29() {
        begin(29);
        PromisedShare x = new PromisedShare();
        row(x, 0, 0, 1, 1, 1);
        is(2046, x.whatShare(0));
        row(x, 0, 0, 1, 0);
        is(0, x.whatShare(0));
        row(x, 0, 0);
        is(2046, x.whatShare(0));
        x.begins();
        // By share s the collector runs in the first 10 - s ticks.
        row(x, 0, 0, 0, 0, 0, 1);
        is(1 << 7, x.whatShare(0));
        row(x, 0, 0, -128, -128, -128, 1);
        is(bits(7, 8, 9, 10), x.whatShare(0));
        row(x, 0, 1, -32768, 0);
        is(bits(1, 2, 3, 4, 5, 6, 7, 8), x.whatShare(0));
        row(x, 0, 2, -2147483648, -2147483648, 0);
        is(bits(1, 2, 3, 4, 5, 6, 7), x.whatShare(0));
        row(x, 0, 2, -128);
        is(0, x.whatShare(0));
        row(x, 0, 1, 2);
        is(0, x.whatShare(0));
        row(x, 0, 0, 1);
        is(1 << 10, x.whatShare(0));
        // By shares 1, 2, 3 it is OFF behind 7 ticks: the 8th is the program's.
        row(x, 0, 0, 0, 0, 0, 0, 0, 0, 0, 1, 1, 1, 1);
        is(bits(1, 2, 3), x.whatShare(0));
        is(7, x.count(2));
        fillShelves(x);
        is(-1, x.whatShare(-1));
        is(-1, x.whatShare(8));
        is(-11, x.whatShare(1));
        is(-12, x.whatShare(2));
    }

    private static void promise30() {
        begin(30);
        PromisedShare x = new PromisedShare();
        is(1, x.lost(0, 2, 0));
        is(1, x.lost(8, 20, 0));
        is(1, x.lost(8, 20, 1));
        x.begins();
        is(0, x.lost(0, 2, 0));
        is(1, x.lost(0, 2, 1));
        is(0, x.lost(8, 2, 0));
        is(1, x.lost(8, 2, 1));
        // By share 1 all 8 are the collector's, and 7 are wanted.
        x.share(1);
        is(0, x.lost(6, 2, 0));
        is(1, x.lost(7, 2, 0));
        is(128, x.lost(7, 2, 1));
        is(9, x.lost(8, 2, 0));
        is(256, x.lost(8, 2, 1));
        is(24057, x.lost(8, 4, 0));
        is(65536, x.lost(8, 4, 1));
        is(24134536953L, x.lost(8, 20, 0));
        is(25600000000L, x.lost(8, 20, 1));
        // 6^7 by 14 of 7^8 is not in least terms.
        is(559872, x.lost(8, 7, 0));
        is(823543, x.lost(8, 7, 1));
        // A lost tick has run all the same: by share 8 two of the 8 are the collector's.
        PromisedShare y = after("share 1;go;tick 6;share 10");
        is(5, y.count(5));
        is(0, y.lost(8, 3, 0));
        y.ticks(9);
        y.share(8);
        is(2, y.lost(1, 3, 0));
        is(3, y.lost(1, 3, 1));
        is(8, y.lost(2, 3, 0));
        is(9, y.lost(2, 3, 1));
        is(8, y.lost(8, 3, 0));
        is(9, y.lost(8, 3, 1));
        is(5, y.count(5));
        is(REFUSED + 1, x.lost(-1, 2, 0));
        is(REFUSED + 1, x.lost(9, 2, 0));
        is(REFUSED + 1, x.lost(0, 1, 0));
        is(REFUSED + 1, x.lost(0, 0, 0));
        is(REFUSED + 1, x.lost(0, 21, 0));
        is(REFUSED + 1, x.lost(0, 2, -1));
        is(REFUSED + 1, x.lost(0, 2, 2));
    }

    private static void promise31() {
        begin(31);
        PromisedShare x = new PromisedShare();
        is(0, x.used(0));
        is(1, x.used(1));
        x.make(WEAK, 0);
        is(1, x.used(0));
        is(72, x.used(1));
        x.make(BIG, 4);
        is(1, x.used(0));
        is(9, x.used(1));
        run(x, "make 5 9;make 5 9;make 5 9;make 5 9;make 5 9;make 1 0");
        is(1, x.used(0));
        is(1, x.used(1));
        is(REFUSED + 1, x.used(-1));
        is(REFUSED + 1, x.used(2));
        PromisedShare y = after("make 5 7;make 5 7;make 5 7");
        is(5, y.used(0));
        is(12, y.used(1));
    }

    private static void promise32() {
        begin(32);
        PromisedShare x = after("make 5 9;make 5 9;make 0 0");
        row(x, 0, 0, 0, 1, 2, 6, 6);
        is(-4, x.forged(0));
        row(x, 0, 1, 0, 1, 1);
        is(2, x.forged(0));
        row(x, 0, 2, 6, 1, 2);
        is(0, x.forged(0));
        row(x, 0, 2, 0, 1, 2, 3);
        is(3, x.forged(0));
        row(x, 0, 0);
        is(-4, x.forged(0));
        row(x, 0, 0, -128);
        is(0, x.forged(0));
        row(x, 0, 0, 0, 1, 2, 6, 6, 6, 6, 6, 6, 6, 6, 6, 6, 6, 6, 6, 6, 6);
        is(-4, x.forged(0));
        x.put(0, 16, 0);
        is(16, x.forged(0));
        fillShelves(x);
        is(-1, x.forged(-1));
        is(-1, x.forged(8));
        is(-11, x.forged(1));
        is(-12, x.forged(2));
    }

    private static void promise33() {
        begin(33);
        PromisedShare x = after("make 1 0;make 0 0;make 5 9;root 0 1;go");
        // As in promise 17: 54, then 58 behind 3 ticks, 70 behind 11.
        row(x, 0, 0, 54, 54, 54, 58, 58, 58, 58, 58, 58, 58, 58, 70);
        is(-4, x.judge(0));
        row(x, 0, 0, 54, 54, 54, 54);
        is(3, x.judge(0));
        row(x, 0, 0, -128, -128, -128, 58);
        is(-4, x.judge(0));
        row(x, 0, 1, -32768, 55);
        is(1, x.judge(0));
        row(x, 0, 2, -2147483648, -32768);
        is(1, x.judge(0));
        row(x, 0, 2, 53);
        is(0, x.judge(0));
        row(x, 0, 2);
        is(-4, x.judge(0));
        is(0, x.count(1));
        fillShelves(x);
        is(-1, x.judge(-1));
        is(-1, x.judge(8));
        is(-11, x.judge(1));
        is(-12, x.judge(2));
    }

    private static void promise34() {
        begin(34);
        PromisedShare x = new PromisedShare();
        is(62, x.lots(1, 1, 0));
        is(5, x.lots(1, 1, 1));
        is(-1, x.lots(0, 1, 0));
        is(-1, x.lots(21, 1, 0));
        is(-1, x.lots(1, 1, -1));
        is(-1, x.lots(1, 1, 2));
        is(0, x.count(0));
        int[] seeds = {0, 1, -1, 12345, 2147483647, -2147483648};
        for (int z : seeds) {
            is(lotsByCalls(new PromisedShare(), 3, z, 0), new PromisedShare().lots(3, z, 0));
            is(lotsByCalls(new PromisedShare(), 3, z, 1), new PromisedShare().lots(3, z, 1));
            String[] state = {"make 0 0;make 2 0;make 4 1;root 0 0;root 1 1;root 2 2;link 1 0 2;link 0 0 1;go;tick 1"};
            is(lotsByCalls(after(state), 4, z, 0), after(state).lots(4, z, 0));
            is(lotsByCalls(after(state), 4, z, 1), after(state).lots(4, z, 1));
            // Nearly no room, nearly no number, and a collection that sweeps.
            String[] tight = {"make 5 9;make 5 9;make 5 9;make 5 9;make 5 9;make 5 7", "root 1 1;root 2 2;share 3;go;tick 4"};
            is(lotsByCalls(after(tight), 4, z, 0), after(tight).lots(4, z, 0));
            String[] many = {"make 4 0;make 4 0;make 4 0;make 4 0;make 4 0;make 4 0;make 4 0",
                "make 4 0;make 4 0;make 4 0;make 4 0;make 4 0;make 4 0"};
            is(lotsByCalls(after(many), 4, z, 1), after(many).lots(4, z, 1));
        }
        // TICK is no matter in mind.
        PromisedShare late = new PromisedShare();
        for (int i = 0; i < 16; i++) {
            late.ticks(60);
        }
        late.ticks(39);
        is(62, late.lots(1, 1, 0));
    }

    private static void promise35() {
        begin(35);
        PromisedShare x = new PromisedShare();
        is(0, x.image());
        x.ticks(7);
        is(7, x.image());
        is(7, x.image());
        x.ticks(5);
        is(7, x.restore());
    }

    private static void promise36() {
        begin(36);
        PromisedShare x = after("make 1 2;make 2 0;make 0 0;root 0 1;root 3 2;link 1 2 0;set 0 1 9;share 4;go;tick 2");
        int list = x.count(4);
        int marked = x.reached(3);
        int ends = x.ends();
        int least = x.least(1);
        is(-3, x.restore());
        is(2, x.image());
        x.row(5, 0, 3);
        run(x, "make 5 9;set 0 1 8;drop 0;drop 3;cut 1 2;share 9;tick 40;make 0 1;make 0 2");
        x.keep(6, 1, LEAF, 1);
        is(2, x.restore());
        is(bits(0, 1, 2), x.count(0));
        is(2, x.count(1));
        is(4, x.count(2));
        is(1, x.count(3));
        is(list, x.count(4));
        is(marked, x.reached(3));
        is(1, x.count(6));
        is(2, x.count(9));
        is(0, x.linked(1, 2));
        is(9, x.number(1, 1));
        is(2, x.thing(0, 1));
        is(ends, x.ends());
        is(least, x.least(1));
        // Shelves are no part of it, and it can be restored again.
        is(0, x.put(5, 2, 1));
        is(1, x.cost(6));
        x.ticks(60);
        is(2, x.restore());
        is(ends, x.ends());
        // Who ran ahead is restored, and the page to be swept.
        PromisedShare y = after("go;tick 3");
        y.image();
        y.ticks(60);
        y.restore();
        is(2, y.count(5));
        is(7, y.ticks(7));
    }

    private static void promise37() {
        begin(37);
        PromisedShare x = after("make 0 0;make 0 0;make 0 0;root 0 0;root 2 2;link 2 0 1;share 5;go;tick 1");
        is(bits(0, 1, 2), x.count(0));
        is(1, x.count(1));
        is(5, x.count(2));
        is(1, x.count(3));
        is(2, x.count(4));
        is(-4, x.count(5));
        is(0, x.count(6));
        is(-4, x.count(7));
        is(2, x.count(8));
        is(-4, x.count(9));
        is(-1, x.count(10));
        is(-1, x.count(-1));
        x.ticks(3);
        is(2, x.count(3));
        is(0, x.count(4));
        is(0, x.count(5));
        x.ticks(1);
        is(1, x.count(5));
        x.ticks(60);
        is(0, x.count(3));
        is(-4, x.count(5));
    }

    private static void promise38() {
        begin(38);
        PromisedShare x = new PromisedShare();
        is(-1, x.keep(-1, 0, 0, 0));
        is(-1, x.keep(8, 0, 0, 0));
        is(-1, x.keep(0, -1, 0, 0));
        is(-1, x.keep(0, 2, 0, 0));
        is(-1, x.keep(0, 1, -1, 0));
        is(-1, x.keep(0, 1, 8, 0));
        is(-1, x.keep(0, 1, 0, -1));
        is(-1, x.keep(0, 1, 0, 10));
        is(-11, x.cost(0));
        is(0, x.keep(0, 1, 0, 9));
        is(9, x.cost(0));
        is(-1, x.keep(0, 1, 0, 10));
        is(9, x.cost(0));
        is(0, x.keep(7, 1, 7, 0));
        is(1, x.cost(7));
        is(0, x.keep(0, 0, 0, 0));
        is(-11, x.cost(0));
        x.row(1, 0, 4);
        is(0, x.keep(1, 1, 4, 4));
        is(9, x.cost(1));
        x.row(1, 0, 4);
        is(0, x.keep(1, 0, 0, 0));
        is(-11, x.put(1, 0, 0));
        is(0, x.count(0));
    }

    private static void promise39() {
        begin(39);
        PromisedShare x = new PromisedShare();
        is(-1, x.row(-1, 0, 1));
        is(-1, x.row(8, 0, 1));
        is(-1, x.row(0, -1, 1));
        is(-1, x.row(0, 3, 1));
        is(-1, x.row(0, 0, 101));
        is(-1, x.row(8, 0, -1));
        is(-1, x.row(0, 3, -1));
        is(-14, x.row(0, 0, -1));
        is(-14, x.row(0, 2, -2147483648));
        is(-11, x.put(0, 0, 0));
        is(0, x.row(0, 0, 0));
        is(-13, x.put(0, 0, 0));
        is(0, x.row(0, 2, 100));
        is(0, x.put(0, 99, 5));
        is(5, x.element(0, 99));
        is(0, x.element(0, 98));
        is(-14, x.row(0, 0, -3));
        is(5, x.element(0, 99));
        is(0, x.row(0, 1, 100));
        is(0, x.element(0, 99));
        x.keep(1, 1, 0, 1);
        is(0, x.row(1, 1, 2));
        is(-12, x.cost(1));
    }

    private static void promise40() {
        begin(40);
        PromisedShare x = new PromisedShare();
        fillShelves(x);
        is(0, x.put(3, 0, 128));
        is(-128, x.element(3, 0));
        is(0, x.put(3, 1, 511));
        is(-1, x.element(3, 1));
        is(0, x.put(3, 3, 127));
        is(127, x.element(3, 3));
        is(0, x.put(4, 0, 32768));
        is(-32768, x.element(4, 0));
        is(0, x.put(4, 1, 65537));
        is(1, x.element(4, 1));
        is(0, x.put(5, 0, -2147483648));
        is(-2147483648L, x.element(5, 0));
        is(-1, x.put(-1, 0, 0));
        is(-1, x.put(8, 0, 0));
        is(-11, x.put(1, 0, 0));
        is(-11, x.put(1, -1, 0));
        is(-12, x.put(2, 0, 0));
        is(-12, x.put(2, 99, 0));
        is(-13, x.put(3, -1, 0));
        is(-13, x.put(3, 4, 0));
        is(-128, x.element(3, 0));
    }

    private static void promise41() {
        begin(41);
        PromisedShare x = new PromisedShare();
        fillShelves(x);
        x.put(5, 3, 77);
        is(77, x.element(5, 3));
        is(0, x.element(5, 2));
        is(0, elementThrows(x, 3, 0));
        is(1, elementThrows(x, -1, 0));
        is(1, elementThrows(x, 8, -1));
        is(2, elementThrows(x, 1, 0));
        is(2, elementThrows(x, 2, 0));
        is(2, elementThrows(x, 3, -1));
        is(2, elementThrows(x, 3, 4));
        is(2, elementThrows(x, 5, 2147483647));
    }

    private static void promise42() {
        begin(42);
        PromisedShare x = new PromisedShare();
        fillShelves(x);
        row(x, 0, 2, 1, 2, 3, 4, 5);
        is(2, x.copy(0, 1, 5, 2, 2));
        is(2, x.element(5, 2));
        is(3, x.element(5, 3));
        is(0, x.element(5, 1));
        // Within one row, as it was ahead of the call.
        is(4, x.copy(0, 0, 0, 1, 4));
        int[] behind = {1, 1, 2, 3, 4};
        for (int i = 0; i < 5; i++) {
            is(behind[i], x.element(0, i));
        }
        is(4, x.copy(0, 1, 0, 0, 4));
        is(4, x.element(0, 3));
        is(4, x.element(0, 4));
        is(0, x.copy(0, 5, 5, 4, 0));
        is(-1, x.copy(-1, 0, 0, 0, 0));
        is(-1, x.copy(0, 0, 8, 0, 0));
        is(-1, x.copy(1, 0, 8, 0, 0));
        is(-11, x.copy(1, 0, 0, 0, 0));
        is(-11, x.copy(0, 0, 1, 0, 0));
        is(-11, x.copy(2, 0, 1, 0, 0));
        is(-11, x.copy(1, 0, 2, 0, -1));
        is(-12, x.copy(2, 0, 0, 0, 0));
        is(-12, x.copy(0, 0, 2, 0, 0));
        is(-12, x.copy(2, 0, 2, 0, 0));
        is(-12, x.copy(3, 0, 4, 0, 0));
        is(-12, x.copy(5, 9, 4, 9, -1));
        is(-13, x.copy(0, -1, 5, 0, 1));
        is(-13, x.copy(0, 0, 5, -1, 1));
        is(-13, x.copy(0, 0, 5, 0, -1));
        is(-13, x.copy(0, 5, 5, 0, 1));
        is(-13, x.copy(0, 6, 5, 0, 0));
        is(-13, x.copy(0, 0, 5, 5, 0));
        is(-13, x.copy(0, 0, 5, 1, 4));
        is(-13, x.copy(0, 1, 5, 0, 2147483647));
        is(-13, x.copy(0, 2147483647, 5, 2147483647, 2147483647));
        is(2, x.element(5, 2));
    }

    private static void promise43() {
        begin(43);
        PromisedShare x = new PromisedShare();
        fillShelves(x);
        int[] of0 = {0, 1, 2, 0, 9, 4, 4, 1};
        int[] of7 = {7, 1, 9, 0, 9, 18, 4, 1};
        for (int kind = 0; kind < 8; kind++) {
            x.keep(0, 1, kind, 0);
            is(of0[kind], x.cost(0));
            x.keep(0, 1, kind, 7);
            is(of7[kind], x.cost(0));
        }
        is(-1, x.cost(-1));
        is(-1, x.cost(8));
        is(-11, x.cost(1));
        is(-12, x.cost(3));
        is(-12, x.cost(5));
    }

    private static void promise44() {
        begin(44);
        PromisedShare x = new PromisedShare();
        fillShelves(x);
        int[] of7 = {7, -15, 107, 200, -15, 107, -15, 201};
        for (int kind = 0; kind < 8; kind++) {
            x.keep(0, 1, kind, 0);
            is(-15, x.toss(0));
            x.keep(0, 1, kind, 7);
            is(of7[kind], x.toss(0));
            is(of7[kind], x.toss(0));
        }
        is(-1, x.toss(-1));
        is(-1, x.toss(8));
        is(-11, x.toss(1));
        is(-12, x.toss(3));
        is(-12, x.toss(5));
    }
}
