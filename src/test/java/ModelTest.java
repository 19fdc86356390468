import java.math.BigInteger;
import java.util.ArrayDeque;
import java.util.ArrayList;
import java.util.Arrays;
import java.util.Collections;
import java.util.Comparator;
import java.util.HashMap;
import java.util.HashSet;
import java.util.List;
import java.util.Map;
import java.util.Random;
import java.util.Set;
import java.util.TreeMap;
import java.util.regex.Matcher;
import java.util.regex.Pattern;

/**
 * Random runs of calls, each answer held against a model that was written a second time from the
 * document, in another way: things are objects, in mind is a deep copy, odds are summed over every
 * outcome, a text is judged by a pattern. A call that throws what it must not is a wrong answer too.
 */
public final class ModelTest {
    private static final long THROWS_ARGUMENT = Long.MIN_VALUE + 1;
    private static final long THROWS_STATE = Long.MIN_VALUE + 2;
    private static final int RUNS = 4000;
    private static final int CALLS = 512;

    public static void main(String[] args) {
        Map<String, Integer> asked = new TreeMap<>();
        int wrong = 0;
        for (int run = 0; run < RUNS && wrong < 10; run++) {
            if (!new Run(run, asked).isRight()) {
                wrong++;
            }
        }
        for (String name : Run.NAMES) {
            if (asked.getOrDefault(name, 0) < 1000) {
                System.out.println("too seldom asked: " + name);
                wrong++;
            }
        }
        System.out.println(wrong == 0 ? "all runs are as the model's" : wrong + " runs are not as the model's");
        if (wrong != 0) {
            System.exit(1);
        }
    }

    /** One object and one model, asked the same. */
    private static final class Run {
        static final List<String> NAMES = List.of(
            "program", "thing", "make", "comes", "root", "link", "linked", "set", "begins", "share",
            "ticks", "reached", "kept", "cut", "snip", "then", "ends", "gains", "least", "fits",
            "sorted", "free", "runsOut", "best", "number", "same", "horner", "whatShare", "lost",
            "used", "forged", "judge", "lots", "image", "restore", "count", "keep", "row", "put",
            "element", "copy", "cost", "toss");
        private static final String[] WORDS =
            {"make", "root", "drop", "link", "cut", "go", "tick", "share", "set"};

        private final Random lot;
        private final int number;
        private final PromisedShare real = new PromisedShare();
        private final Model model = new Model();
        private final Map<String, Integer> asked;
        private final List<String> told = new ArrayList<>();
        private int calls = 0;
        private boolean right = true;

        Run(int number, Map<String, Integer> asked) {
            this.number = number;
            this.lot = new Random(number * 7919L + 17);
            this.asked = asked;
        }

        boolean isRight() {
            while (right && calls < CALLS) {
                int what = lot.nextInt(100);
                if (what < 6) {
                    askWithText();
                } else if (what < 14) {
                    askWithRow();
                } else if (what < 45) {
                    changeSomething();
                } else {
                    askAnything();
                }
            }
            return right;
        }

        /** Asks both; the answer of the model. */
        private long ask(String name, int... a) {
            if (calls >= CALLS || !right) {
                return 0;
            }
            calls++;
            asked.merge(name, 1, Integer::sum);
            String call = name + Arrays.toString(a);
            long due = model.answer(name, a);
            long got;
            try {
                got = answerOf(real, name, a);
            } catch (RuntimeException thrown) {
                got = Long.MAX_VALUE;
                call = call + " threw " + thrown;
            }
            told.add(call + " = " + due);
            if (got != due) {
                right = false;
                System.out.println("run " + number + ", call " + calls + ": " + call + " answered " + got + ", due is " + due);
                int from = Math.max(0, told.size() - 25);
                for (String line : told.subList(from, told.size())) {
                    System.out.println("    " + line);
                }
            }
            return due;
        }

        /** A number that is mostly from .. to, and now and then just outside or far away. */
        private int about(int from, int to) {
            switch (lot.nextInt(40)) {
                case 0:
                    return from - 1;
                case 1:
                    return to + 1;
                case 2:
                    return lot.nextInt();
                case 3:
                    return lot.nextBoolean() ? Integer.MIN_VALUE : Integer.MAX_VALUE;
                default:
                    return from + lot.nextInt(to - from + 1);
            }
        }

        /** A thing that is there, mostly. */
        private int someThing() {
            List<Integer> there = new ArrayList<>(model.now.things.keySet());
            if (there.isEmpty() || lot.nextInt(12) == 0) {
                return about(0, 15);
            }
            return there.get(lot.nextInt(there.size()));
        }

        private int someSpine() {
            for (Map.Entry<Integer, Thing> e : model.now.things.entrySet()) {
                if (e.getValue().isSpine() && lot.nextInt(2) == 0) {
                    return e.getKey();
                }
            }
            return someThing();
        }

        private int thingOrNone() {
            return lot.nextInt(5) == 0 ? -1 : someThing();
        }

        private void changeSomething() {
            switch (lot.nextInt(10)) {
                case 0:
                case 1:
                    ask("make", about(0, 7), about(0, 9));
                    break;
                case 2:
                case 3:
                    ask("root", about(0, 3), thingOrNone());
                    break;
                case 4:
                case 5:
                    ask("link", someThing(), about(0, 2), thingOrNone());
                    break;
                case 6:
                    ask("begins");
                    break;
                case 7:
                    ask("ticks", lot.nextInt(30) == 0 ? about(1, 60) : about(1, 9));
                    break;
                case 8:
                    ask("share", about(1, 10));
                    break;
                default:
                    ask("set", someThing(), about(0, 3), lot.nextInt(3) == 0 ? lot.nextInt() : about(-60, 60));
            }
        }

        private void askAnything() {
            String name = NAMES.get(lot.nextInt(NAMES.size()));
            switch (name) {
                case "thing": ask(name, someThing(), about(0, 7)); break;
                case "make": ask(name, about(0, 7), about(0, 9)); break;
                case "root": ask(name, about(0, 3), thingOrNone()); break;
                case "link": ask(name, someThing(), about(0, 2), thingOrNone()); break;
                case "linked": ask(name, someThing(), about(0, 2)); break;
                case "set": ask(name, someThing(), about(0, 3), lot.nextInt(50)); break;
                case "share": ask(name, about(1, 10)); break;
                case "ticks": ask(name, about(1, 6)); break;
                case "reached": ask(name, about(0, 3)); break;
                case "kept": ask(name, someThing()); break;
                case "cut": case "snip": ask(name, about(0, 1)); break;
                case "then": ask(name, about(0, 99), about(0, 3)); break;
                case "least": ask(name, about(1, 60)); break;
                case "fits": ask(name, about(1, 12), about(0, 1)); break;
                case "sorted": ask(name, about(0, 5)); break;
                case "free": ask(name, about(-3, 5)); break;
                case "runsOut": ask(name, about(0, 12)); break;
                case "best": ask(name, about(-1, 12)); break;
                case "number": ask(name, someSpine(), about(-1, 11)); break;
                case "same": ask(name, about(0, 7), someSpine()); break;
                case "horner": ask(name, someSpine(), about(-3, 60)); break;
                case "lost": ask(name, about(0, 8), about(2, 20), about(0, 1)); break;
                case "used": ask(name, about(0, 1)); break;
                case "lots": ask(name, about(1, 20), lot.nextInt(), about(0, 1)); break;
                case "count": ask(name, about(0, 9)); break;
                case "keep": ask(name, about(0, 7), about(0, 1), about(0, 7), about(0, 9)); break;
                case "row": ask(name, about(0, 7), about(0, 2), lot.nextInt(8) == 0 ? -lot.nextInt(9) : about(0, 100)); break;
                case "put": ask(name, about(0, 7), about(0, 20), lot.nextInt()); break;
                case "element": ask(name, about(0, 7), about(0, 20)); break;
                case "copy": ask(name, about(0, 7), about(0, 9), about(0, 7), about(0, 9), about(0, 9)); break;
                case "begins": case "ends": case "gains": case "image": ask(name); break;
                case "restore":
                    if (lot.nextInt(4) == 0) {
                        ask(name);
                    }
                    break;
                default: ask(name, about(0, 7));
            }
        }

        private int[] tellRow(int d, int sort, int[] elements) {
            ask("row", d, sort, elements.length);
            for (int i = 0; i < elements.length; i++) {
                if (elements[i] != 0) {
                    ask("put", d, i, elements[i]);
                }
            }
            return elements;
        }

        /** A row that tells what is so, but for a slip now and then, and the call that looks at it. */
        private void askWithRow() {
            int d = lot.nextInt(8);
            int sort = lot.nextInt(3);
            int least = sort == 0 ? -128 : sort == 1 ? -32768 : Integer.MIN_VALUE;
            String name = List.of("whatShare", "judge", "forged", "same").get(lot.nextInt(4));
            int spine = someSpine();
            int[] row = new int[lot.nextInt(name.equals("forged") ? 19 : 14)];
            if (name.equals("same") && model.refusalOfSpine(spine) == 0) {
                List<Integer> all = model.longRow(spine);
                row = new int[Math.max(0, all.size() + (lot.nextInt(3) == 0 ? lot.nextInt(3) - 1 : 0))];
                for (int i = 0; i < row.length && i < all.size(); i++) {
                    row[i] = all.get(i);
                }
            }
            State ahead = model.now.deepCopy();
            if (name.equals("whatShare")) {
                ahead.share = 1 + lot.nextInt(10);
            }
            for (int i = 0; i < row.length; i++) {
                if (name.equals("judge")) {
                    row[i] = ahead.freeOfAll();
                }
                boolean program = ahead.tickOnce();
                if (name.equals("whatShare")) {
                    row[i] = program ? 1 : 0;
                }
                if (name.equals("forged")) {
                    row[i] = model.now.things.containsKey(i) ? model.now.things.get(i).page : 6;
                }
                int slip = lot.nextInt(40);
                if (slip == 0) {
                    row[i] += lot.nextInt(3) - 1;
                } else if (slip < 6) {
                    row[i] = least;
                }
            }
            tellRow(d, sort, row);
            if (name.equals("same")) {
                ask(name, d, spine);
            } else {
                ask(name, d);
            }
        }

        private String statement() {
            String word = WORDS[lot.nextInt(WORDS.length)];
            switch (word) {
                case "make": return word + " " + lot.nextInt(8) + " " + lot.nextInt(10);
                case "root": return word + " " + lot.nextInt(4) + " " + Math.abs(someThing() % 16);
                case "drop": return word + " " + lot.nextInt(4);
                case "link": return word + " " + Math.abs(someThing() % 16) + " 0 " + Math.abs(someThing() % 16);
                case "cut": return word + " " + Math.abs(someThing() % 16) + " " + lot.nextInt(2);
                case "go": return word;
                case "tick": return word + " " + (1 + lot.nextInt(12));
                case "share": return word + " " + (1 + lot.nextInt(10));
                default: return word + " " + Math.abs(someThing() % 16) + " " + lot.nextInt(3) + " " + lot.nextInt(1000);
            }
        }

        private void askWithText() {
            StringBuilder text = new StringBuilder();
            int n = 1 + lot.nextInt(3);
            for (int i = 0; i < n; i++) {
                text.append(i == 0 ? "" : ";").append(statement());
            }
            int slip = lot.nextInt(6);
            if (slip == 0) {
                text.setCharAt(lot.nextInt(text.length()), " ;0129makeset".charAt(lot.nextInt(13)));
            } else if (slip == 1) {
                text.deleteCharAt(lot.nextInt(text.length()));
            } else if (slip == 2) {
                text.insert(lot.nextInt(text.length() + 1), " ;0129makeset".charAt(lot.nextInt(13)));
            }
            int[] row = new int[text.length()];
            for (int i = 0; i < row.length; i++) {
                row[i] = text.charAt(i);
            }
            int d = lot.nextInt(8);
            tellRow(d, lot.nextInt(20) == 0 ? 1 : 0, row);
            ask("program", d);
        }
    }

    private static long answerOf(PromisedShare x, String name, int[] a) {
        switch (name) {
            case "program": return x.program(a[0]);
            case "thing": return x.thing(a[0], a[1]);
            case "make": return x.make(a[0], a[1]);
            case "comes": return x.comes(a[0]);
            case "root": return x.root(a[0], a[1]);
            case "link": return x.link(a[0], a[1], a[2]);
            case "linked": return x.linked(a[0], a[1]);
            case "set": return x.set(a[0], a[1], a[2]);
            case "begins": return x.begins();
            case "share": return x.share(a[0]);
            case "ticks": return x.ticks(a[0]);
            case "reached": return x.reached(a[0]);
            case "kept": return x.kept(a[0]);
            case "cut": return x.cut(a[0]);
            case "snip": return x.snip(a[0]);
            case "then": return x.then(a[0], a[1]);
            case "ends": return x.ends();
            case "gains": return x.gains();
            case "least": return x.least(a[0]);
            case "fits": return x.fits(a[0], a[1]);
            case "sorted": return x.sorted(a[0]);
            case "free": return x.free(a[0]);
            case "runsOut": return x.runsOut(a[0]);
            case "best": return x.best(a[0]);
            case "number": return x.number(a[0], a[1]);
            case "same": return x.same(a[0], a[1]);
            case "horner": return x.horner(a[0], a[1]);
            case "whatShare": return x.whatShare(a[0]);
            case "lost": return x.lost(a[0], a[1], a[2]);
            case "used": return x.used(a[0]);
            case "forged": return x.forged(a[0]);
            case "judge": return x.judge(a[0]);
            case "lots": return x.lots(a[0], a[1], a[2]);
            case "image": return x.image();
            case "restore": return x.restore();
            case "count": return x.count(a[0]);
            case "keep": return x.keep(a[0], a[1], a[2], a[3]);
            case "row": return x.row(a[0], a[1], a[2]);
            case "put": return x.put(a[0], a[1], a[2]);
            case "element":
                try {
                    return x.element(a[0], a[1]);
                } catch (IllegalArgumentException e) {
                    return THROWS_ARGUMENT;
                } catch (IllegalStateException e) {
                    return THROWS_STATE;
                }
            case "copy": return x.copy(a[0], a[1], a[2], a[3], a[4]);
            case "cost": return x.cost(a[0]);
            case "toss": return x.toss(a[0]);
            default: throw new AssertionError(name);
        }
    }

    private enum Kind { CELL, LEAF, SPINE, PIN, WEAK, BIG, TAIL, HOOK }

    private static final class Thing {
        final Kind kind;
        final int figure;
        final Integer[] links;
        final int[] numbers;
        int page;
        boolean marked;

        Thing(Kind kind, int figure) {
            this.kind = kind;
            this.figure = figure;
            this.links = new Integer[linkCount(kind)];
            this.numbers = new int[kind == Kind.LEAF ? 4 : kind == Kind.TAIL ? 2 : 0];
        }

        static int linkCount(Kind kind) {
            switch (kind) {
                case LEAF: return 0;
                case TAIL: return 1;
                case SPINE: case BIG: case HOOK: return 3;
                default: return 2;
            }
        }

        int size() {
            switch (kind) {
                case LEAF: return 4;
                case SPINE: return 3;
                case PIN: case HOOK: return figure < 3 ? 2 : figure < 6 ? 3 : figure < 9 ? 4 : 5;
                case WEAK: return 1;
                case BIG: return 3 + figure;
                default: return 2;
            }
        }

        int cost() {
            switch (kind) {
                case CELL: return figure;
                case LEAF: case HOOK: return 1;
                case SPINE: return figure + 2;
                case PIN: return 0;
                case WEAK: return 9;
                case BIG: return 2 * figure + 4;
                default: return 4;
            }
        }

        int toss() {
            if (figure == 0) {
                return -15;
            }
            switch (kind) {
                case CELL: return figure;
                case SPINE: case BIG: return figure + 100;
                case PIN: return 200;
                case HOOK: return 201;
                default: return -15;
            }
        }

        boolean isSpine() {
            return kind == Kind.SPINE || kind == Kind.BIG;
        }

        boolean isPin() {
            return kind == Kind.PIN || kind == Kind.HOOK;
        }

        List<Integer> traced() {
            List<Integer> out = new ArrayList<>();
            for (Integer to : links) {
                if (to != null && kind != Kind.WEAK) {
                    out.add(to);
                }
            }
            return out;
        }

        Thing deepCopy() {
            Thing t = new Thing(kind, figure);
            System.arraycopy(links, 0, t.links, 0, links.length);
            System.arraycopy(numbers, 0, t.numbers, 0, numbers.length);
            t.page = page;
            t.marked = marked;
            return t;
        }
    }

    private static final class State {
        final TreeMap<Integer, Thing> things = new TreeMap<>();
        final Integer[] roots = new Integer[4];
        final ArrayDeque<Integer> list = new ArrayDeque<>();
        final ArrayList<Boolean> ran = new ArrayList<>(Collections.nCopies(9, true));
        int tick = 0;
        int share = 7;
        int phase = 0;
        int sweep = 0;

        State deepCopy() {
            State s = new State();
            things.forEach((n, t) -> s.things.put(n, t.deepCopy()));
            System.arraycopy(roots, 0, s.roots, 0, 4);
            s.list.addAll(list);
            s.ran.clear();
            s.ran.addAll(ran);
            s.tick = tick;
            s.share = share;
            s.phase = phase;
            s.sweep = sweep;
            return s;
        }

        int free(int page) {
            return 12 - things.values().stream().filter(t -> t.page == page).mapToInt(Thing::size).sum();
        }

        int freeOfAll() {
            return 72 - things.values().stream().mapToInt(Thing::size).sum();
        }

        List<Integer> sortedPages() {
            List<Integer> pages = new ArrayList<>(List.of(0, 1, 2, 3, 4, 5));
            pages.sort(Comparator.comparingInt((Integer p) -> 12 - free(p)).thenComparingInt(p -> p));
            return pages;
        }

        int firstFree(int size) {
            for (int p = 0; p < 6; p++) {
                if (free(p) >= size) {
                    return p;
                }
            }
            return -1;
        }

        /** Really moves things; {how many, the page}, or null if it is FULL (then this state is spoilt). */
        int[] moveFor(int size) {
            if (firstFree(size) >= 0) {
                return new int[] {0, firstFree(size)};
            }
            if (freeOfAll() < size) {
                return null;
            }
            int moved = 0;
            for (int p : sortedPages()) {
                for (Thing t : things.values()) {
                    if (t.page != p || t.isPin()) {
                        continue;
                    }
                    List<Integer> others = new ArrayList<>(List.of(0, 1, 2, 3, 4, 5));
                    others.removeIf(q -> q == p || free(q) < t.size());
                    if (others.isEmpty()) {
                        continue;
                    }
                    t.page = Collections.min(others, Comparator.comparingInt((Integer q) -> free(q)).thenComparingInt(q -> q));
                    moved++;
                    if (firstFree(size) >= 0) {
                        return new int[] {moved, firstFree(size)};
                    }
                }
            }
            return null;
        }

        int create(Kind kind, int figure) {
            int number = 0;
            while (things.containsKey(number)) {
                number++;
            }
            Thing t = new Thing(kind, figure);
            if (number > 15 || deepCopy().moveFor(t.size()) == null) {
                return -2;
            }
            t.page = moveFor(t.size())[1];
            t.marked = phase != 0;
            things.put(number, t);
            return number;
        }

        void mark(Integer t) {
            if (t != null && !things.get(t).marked) {
                things.get(t).marked = true;
                list.push(t);
            }
        }

        void begin() {
            phase = 1;
            for (Integer r : roots) {
                mark(r);
            }
        }

        void barrier(Integer old) {
            if (phase == 1) {
                mark(old);
            }
        }

        boolean tickOnce() {
            long count = ran.subList(ran.size() - 9, ran.size()).stream().filter(b -> b).count();
            boolean program = phase == 0 || count < share;
            if (!program) {
                collectorTick();
            }
            ran.add(program);
            tick++;
            return program;
        }

        void collectorTick() {
            if (phase == 1 && list.isEmpty()) {
                phase = 2;
                sweep = 0;
            } else if (phase == 1) {
                things.get(list.pop()).traced().forEach(this::mark);
            } else if (phase == 2) {
                for (Integer n : new ArrayList<>(things.keySet())) {
                    if (things.get(n).page == sweep && !things.get(n).marked) {
                        cutAllTo(n);
                        things.remove(n);
                    }
                }
                if (++sweep == 6) {
                    phase = 0;
                    things.values().forEach(t -> t.marked = false);
                }
            }
        }

        void cutAllTo(Integer n) {
            for (int r = 0; r < 4; r++) {
                if (n.equals(roots[r])) {
                    roots[r] = null;
                }
            }
            for (Thing t : things.values()) {
                for (int l = 0; l < t.links.length; l++) {
                    if (n.equals(t.links[l])) {
                        t.links[l] = null;
                    }
                }
            }
        }

        Set<Integer> reached() {
            Set<Integer> seen = new HashSet<>();
            for (Integer r : roots) {
                visit(r, seen);
            }
            return seen;
        }

        private void visit(Integer t, Set<Integer> seen) {
            if (t != null && seen.add(t)) {
                things.get(t).traced().forEach(to -> visit(to, seen));
            }
        }

        int units(Set<Integer> some) {
            return some.stream().mapToInt(t -> things.get(t).size()).sum();
        }
    }

    private static final class Shelf {
        Thing thing;
        int sort = -1;
        int[] row;
    }

    private static final class Model {
        private static final String NUMBER = " [0-9]{1,3}";
        private static final String STATEMENT = "(?:make" + NUMBER + NUMBER + "|root" + NUMBER + NUMBER + "|drop" + NUMBER
            + "|link" + NUMBER + NUMBER + NUMBER + "|cut" + NUMBER + NUMBER + "|go|tick" + NUMBER + "|share" + NUMBER
            + "|set" + NUMBER + NUMBER + NUMBER + ")";
        private static final Pattern PROGRAM = Pattern.compile(STATEMENT + "(?:;" + STATEMENT + ")*");

        State now = new State();
        State image = null;
        final Shelf[] shelves = new Shelf[8];

        private static boolean in(int v, int from, int to) {
            return v >= from && v <= to;
        }

        private static int bits(Set<Integer> some) {
            return some.stream().mapToInt(t -> 1 << t).sum();
        }

        private static long asLong(long answer, boolean refused) {
            return refused ? 10000000000L - answer : answer;
        }

        long answer(String name, int[] a) {
            switch (name) {
                case "program": return program(a[0]);
                case "thing": return thing(a[0], a[1]);
                case "make": return make(a[0], a[1]);
                case "comes": return thingRefusal(a[0]) != 0 ? thingRefusal(a[0]) : now.create(shelves[a[0]].thing.kind, shelves[a[0]].thing.figure);
                case "root": return root(a[0], a[1]);
                case "link": return link(a[0], a[1], a[2]);
                case "linked": return noLink(a[0], a[1]) ? -1 : told(now.things.get(a[0]).links[a[1]]);
                case "set": return set(a[0], a[1], a[2]);
                case "begins": return begins();
                case "share": return share(a[0]);
                case "ticks": return ticks(a[0]);
                case "reached": return reached(a[0]);
                case "kept": return kept(a[0]);
                case "cut": return in(a[0], 0, 1) ? cut()[a[0]] : -1;
                case "snip": return in(a[0], 0, 1) ? snip()[a[0]] : -1;
                case "then": return then(a[0], a[1]);
                case "ends": return ends();
                case "gains": return gains();
                case "least": return least(a[0]);
                case "fits": return fits(a[0], a[1]);
                case "sorted": return in(a[0], 0, 5) ? now.sortedPages().get(a[0]) : -1;
                case "free": return free(a[0]);
                case "runsOut": return in(a[0], 0, 12) ? runsOut(now, a[0], now.share) : -1;
                case "best": return best(a[0]);
                case "number": return number(a[0], a[1]);
                case "same": return same(a[0], a[1]);
                case "horner": return horner(a[0], a[1]);
                case "whatShare": return whatShare(a[0]);
                case "lost": return lost(a[0], a[1], a[2]);
                case "used": return used(a[0]);
                case "forged": return forged(a[0]);
                case "judge": return judge(a[0]);
                case "lots": return lots(a[0], a[1], a[2]);
                case "image": image = now.deepCopy(); return now.tick;
                case "restore": return restore();
                case "count": return count(a[0]);
                case "keep": return keep(a[0], a[1], a[2], a[3]);
                case "row": return row(a[0], a[1], a[2]);
                case "put": return put(a[0], a[1], a[2]);
                case "element": return element(a[0], a[1]);
                case "copy": return copy(a[0], a[1], a[2], a[3], a[4]);
                case "cost": return thingRefusal(a[0]) != 0 ? thingRefusal(a[0]) : shelves[a[0]].thing.cost();
                case "toss": return thingRefusal(a[0]) != 0 ? thingRefusal(a[0]) : shelves[a[0]].thing.toss();
                default: throw new AssertionError(name);
            }
        }

        private int thingRefusal(int d) {
            if (!in(d, 0, 7)) {
                return -1;
            }
            return shelves[d] == null ? -11 : shelves[d].thing == null ? -12 : 0;
        }

        private int rowRefusal(int d) {
            if (!in(d, 0, 7)) {
                return -1;
            }
            return shelves[d] == null ? -11 : shelves[d].row == null ? -12 : 0;
        }

        private static int told(Integer t) {
            return t == null ? -4 : t;
        }

        private boolean noLink(int t, int l) {
            return !now.things.containsKey(t) || !in(l, 0, now.things.get(t).links.length - 1);
        }

        private int program(int d) {
            int refusal = rowRefusal(d);
            if (refusal != 0 || shelves[d].sort != 0) {
                return refusal != 0 ? refusal : -12;
            }
            StringBuilder text = new StringBuilder();
            for (int b : shelves[d].row) {
                text.append((char) (b & 255));
            }
            for (int n = 1; n <= text.length(); n++) {
                Matcher m = PROGRAM.matcher(text.substring(0, n));
                if (!m.matches() && !m.hitEnd()) {
                    return -1000 - (n - 1);
                }
            }
            if (!PROGRAM.matcher(text).matches()) {
                return -1000 - text.length();
            }
            State before = now.deepCopy();
            int place = 0;
            String[] statements = text.toString().split(";");
            for (String statement : statements) {
                if (!comes(statement.split(" "))) {
                    now = before;
                    return -2000 - place;
                }
                place += statement.length() + 1;
            }
            return statements.length;
        }

        private boolean comes(String[] w) {
            int[] v = new int[w.length];
            for (int i = 1; i < w.length; i++) {
                v[i] = Integer.parseInt(w[i]);
            }
            switch (w[0]) {
                case "make": return make(v[1], v[2]) >= 0;
                case "root": return root(v[1], v[2]) != -1;
                case "drop": return root(v[1], -1) != -1;
                case "link": return link(v[1], v[2], v[3]) != -1;
                case "cut": return link(v[1], v[2], -1) != -1;
                case "go": return begins() >= 0;
                case "tick": return ticks(v[1]) >= 0;
                case "share": return share(v[1]) >= 0;
                default: return set(v[1], v[2], v[3]) < 10000000000L;
            }
        }

        private int thing(int n, int what) {
            Thing t = now.things.get(n);
            if (t == null) {
                return -1;
            }
            switch (what) {
                case 0: return t.kind.ordinal();
                case 1: return t.figure;
                case 2: return t.size();
                case 3: return t.page;
                case 4: return t.marked ? 1 : 0;
                case 5: return t.links.length;
                case 6: return t.numbers.length;
                case 7: return depth(n);
                default: return -1;
            }
        }

        private int depth(int n) {
            Map<Integer, Integer> depths = new HashMap<>();
            ArrayDeque<Integer> open = new ArrayDeque<>();
            for (Integer r : now.roots) {
                if (r != null && depths.putIfAbsent(r, 0) == null) {
                    open.add(r);
                }
            }
            while (!open.isEmpty()) {
                Integer from = open.remove();
                for (Integer to : now.things.get(from).traced()) {
                    if (depths.putIfAbsent(to, depths.get(from) + 1) == null) {
                        open.add(to);
                    }
                }
            }
            return depths.getOrDefault(n, -4);
        }

        private int make(int kind, int figure) {
            return in(kind, 0, 7) && in(figure, 0, 9) ? now.create(Kind.values()[kind], figure) : -1;
        }

        private int root(int r, int t) {
            if (!in(r, 0, 3) || t != -1 && !now.things.containsKey(t)) {
                return -1;
            }
            Integer old = now.roots[r];
            now.barrier(old);
            now.roots[r] = t == -1 ? null : (Integer) t;
            return told(old);
        }

        private int link(int t, int l, int to) {
            if (noLink(t, l) || to != -1 && !now.things.containsKey(to)) {
                return -1;
            }
            Integer old = now.things.get(t).links[l];
            now.barrier(old);
            now.things.get(t).links[l] = to == -1 ? null : (Integer) to;
            return told(old);
        }

        private long set(int t, int i, int v) {
            if (!now.things.containsKey(t) || !in(i, 0, now.things.get(t).numbers.length - 1)) {
                return asLong(-1, true);
            }
            int old = now.things.get(t).numbers[i];
            now.things.get(t).numbers[i] = v;
            return old;
        }

        private int begins() {
            if (now.phase != 0) {
                return -3;
            }
            now.begin();
            return now.list.size();
        }

        private int share(int v) {
            int old = now.share;
            if (!in(v, 1, 10)) {
                return -1;
            }
            now.share = v;
            return old;
        }

        private int ticks(int n) {
            if (!in(n, 1, 60)) {
                return -1;
            }
            if (now.tick + n > 999) {
                return -3;
            }
            int ran = 0;
            for (int i = 0; i < n; i++) {
                ran += now.tickOnce() ? 1 : 0;
            }
            return ran;
        }

        private Set<Integer> marked() {
            Set<Integer> out = new HashSet<>(now.things.keySet());
            out.removeIf(t -> !now.things.get(t).marked);
            return out;
        }

        private int reached(int what) {
            Set<Integer> reached = now.reached();
            Set<Integer> garbage = new HashSet<>(now.things.keySet());
            garbage.removeAll(reached);
            switch (what) {
                case 0: return bits(reached);
                case 1: return bits(garbage);
                case 2:
                    garbage.retainAll(marked());
                    return bits(garbage);
                case 3: return bits(marked());
                default: return -1;
            }
        }

        private int kept(int t) {
            if (!now.things.containsKey(t)) {
                return -1;
            }
            State without = now.deepCopy();
            without.cutAllTo(t);
            return bits(now.reached()) & ~bits(without.reached());
        }

        private int[] cut() {
            int[] best = {0, 0};
            for (int r = 3; r >= 0; r--) {
                State without = now.deepCopy();
                without.roots[r] = null;
                int units = now.units(now.reached()) - now.units(without.reached());
                if (units >= best[1]) {
                    best = new int[] {r, units};
                }
            }
            return best;
        }

        private int[] snip() {
            int[] best = {-4, -4};
            for (Integer t : now.things.keySet()) {
                for (int l = 0; l < now.things.get(t).links.length; l++) {
                    State without = now.deepCopy();
                    without.things.get(t).links[l] = null;
                    int units = now.units(now.reached()) - now.units(without.reached());
                    if (units > 0 && units > best[1]) {
                        best = new int[] {10 * t + l, units};
                    }
                }
            }
            return best;
        }

        private int then(int n, int what) {
            if (!in(n, 0, 99) || !in(what, 0, 3)) {
                return -1;
            }
            State mind = now.deepCopy();
            List<Boolean> ran = new ArrayList<>();
            for (int i = 0; i < n; i++) {
                ran.add(mind.tickOnce());
            }
            switch (what) {
                case 0: return mind.freeOfAll();
                case 1: return bits(mind.things.keySet());
                case 2: return n == 0 ? -4 : ran.get(n - 1) ? 1 : 0;
                default: return Collections.frequency(ran, true);
            }
        }

        private int ends() {
            State mind = now.deepCopy();
            int n = 0;
            while (mind.phase != 0 && n <= 99) {
                mind.tickOnce();
                n++;
            }
            return n > 99 ? -4 : n;
        }

        private int gains() {
            if (now.phase != 0) {
                return -3;
            }
            State mind = now.deepCopy();
            mind.begin();
            while (mind.phase != 0) {
                mind.collectorTick();
            }
            return mind.freeOfAll() - now.freeOfAll();
        }

        private int least(int n) {
            if (!in(n, 1, 60)) {
                return -1;
            }
            State mind = now.deepCopy();
            for (int i = 0; i < n; i++) {
                mind.tickOnce();
            }
            List<Boolean> all = mind.ran.subList(mind.ran.size() - n - 9, mind.ran.size());
            int least = 10;
            for (int i = 0; i + 10 <= all.size(); i++) {
                least = Math.min(least, Collections.frequency(all.subList(i, i + 10), true));
            }
            return least;
        }

        private int fits(int s, int what) {
            if (!in(s, 1, 12) || !in(what, 0, 1)) {
                return -1;
            }
            int[] found = now.deepCopy().moveFor(s);
            return found == null ? -2 : found[what];
        }

        private int free(int page) {
            int greatest = 12 - (12 - now.free(now.sortedPages().get(0)));
            switch (page) {
                case -1: return now.freeOfAll();
                case -2: return greatest;
                case -3: return now.freeOfAll() - greatest;
                default: return in(page, 0, 5) ? now.free(page) : -1;
            }
        }

        private static int runsOut(State from, int rate, int share) {
            State mind = from.deepCopy();
            mind.share = share;
            if (mind.phase == 0) {
                mind.begin();
            }
            int ran = 0;
            for (int n = 1; n <= 99; n++) {
                if (mind.phase == 0) {
                    return -4;
                }
                ran += mind.tickOnce() ? 1 : 0;
                if (mind.freeOfAll() < ran * rate) {
                    return n;
                }
            }
            return -4;
        }

        private int best(int r) {
            if (!in(r, -1, 12)) {
                return -1;
            }
            int best = -4;
            for (int i = 0; i <= 12; i++) {
                if (r == -1 && runsOut(now, i, now.share) == -4) {
                    best = i;
                }
                if (r != -1 && in(i, 1, 10) && runsOut(now, r, i) == -4) {
                    best = i;
                }
            }
            return best;
        }

        int refusalOfSpine(int t) {
            return !now.things.containsKey(t) ? -1 : now.things.get(t).isSpine() ? 0 : -3;
        }

        List<Integer> longRow(int t) {
            List<Integer> out = new ArrayList<>();
            for (Integer to : now.things.get(t).links) {
                if (to != null) {
                    for (int v : now.things.get(to).numbers) {
                        out.add(v);
                    }
                }
            }
            return out;
        }

        private long number(int t, int i) {
            if (refusalOfSpine(t) != 0) {
                return asLong(refusalOfSpine(t), true);
            }
            List<Integer> row = longRow(t);
            return i == -1 ? row.size() : in(i, 0, row.size() - 1) ? row.get(i) : asLong(-1, true);
        }

        private int same(int d, int t) {
            if (!in(d, 0, 7) || refusalOfSpine(t) != 0) {
                return !in(d, 0, 7) ? -1 : refusalOfSpine(t);
            }
            if (rowRefusal(d) != 0) {
                return rowRefusal(d);
            }
            int[] all = longRow(t).stream().mapToInt(v -> v).toArray();
            int place = Arrays.mismatch(all, shelves[d].row);
            return place == -1 ? -4 : place;
        }

        private long horner(int t, int x) {
            if (refusalOfSpine(t) != 0) {
                return asLong(refusalOfSpine(t), true);
            }
            int value = 0;
            try {
                for (int v : longRow(t)) {
                    value = Math.addExact(Math.multiplyExact(value, x), v);
                }
            } catch (ArithmeticException tooMuch) {
                return asLong(-5, true);
            }
            return value;
        }

        private boolean isTold(Shelf row, int i) {
            int[] least = {Byte.MIN_VALUE, Short.MIN_VALUE, Integer.MIN_VALUE};
            return row.row[i] != least[row.sort];
        }

        private int whatShare(int d) {
            if (rowRefusal(d) != 0) {
                return rowRefusal(d);
            }
            int shares = 0;
            for (int s = 1; s <= 10; s++) {
                State mind = now.deepCopy();
                mind.share = s;
                boolean so = true;
                for (int i = 0; i < shelves[d].row.length; i++) {
                    boolean program = mind.tickOnce();
                    so &= !isTold(shelves[d], i) || shelves[d].row[i] == (program ? 1 : 0);
                }
                shares |= so ? 1 << s : 0;
            }
            return shares;
        }

        /** {above, below}: every tick of the collector done or lost, outcome by outcome. */
        private BigInteger[] odds(State from, int n, int t) {
            if (from.phase == 0 || n == 0) {
                return new BigInteger[] {from.phase == 0 ? BigInteger.ONE : BigInteger.ZERO, BigInteger.ONE};
            }
            State done = from.deepCopy();
            if (done.tickOnce()) {
                return odds(done, n - 1, t);
            }
            State lost = from.deepCopy();
            lost.ran.add(false);
            BigInteger[] a = odds(done, n - 1, t);
            BigInteger[] b = odds(lost, n - 1, t);
            BigInteger above = a[0].multiply(b[1]).multiply(BigInteger.valueOf(t - 1)).add(b[0].multiply(a[1]));
            BigInteger below = a[1].multiply(b[1]).multiply(BigInteger.valueOf(t));
            BigInteger gcd = above.gcd(below);
            return new BigInteger[] {above.divide(gcd), below.divide(gcd)};
        }

        private long lost(int n, int t, int part) {
            if (!in(n, 0, 8) || !in(t, 2, 20) || !in(part, 0, 1)) {
                return asLong(-1, true);
            }
            return odds(now, n, t)[part].longValueExact();
        }

        private long used(int part) {
            if (!in(part, 0, 1)) {
                return asLong(-1, true);
            }
            int used = 72 - now.freeOfAll();
            int gcd = BigInteger.valueOf(used).gcd(BigInteger.valueOf(72)).intValue();
            return part == 0 ? used / gcd : 72 / gcd;
        }

        private int forged(int d) {
            if (rowRefusal(d) != 0) {
                return rowRefusal(d);
            }
            int[] row = shelves[d].row;
            for (int i = 0; i < row.length; i++) {
                if (row[i] != (now.things.containsKey(i) ? now.things.get(i).page : 6)) {
                    return i;
                }
            }
            return -4;
        }

        private int judge(int d) {
            if (rowRefusal(d) != 0) {
                return rowRefusal(d);
            }
            for (int i = 0; i < shelves[d].row.length; i++) {
                if (isTold(shelves[d], i) && then(i, 0) != shelves[d].row[i]) {
                    return i;
                }
            }
            return -4;
        }

        private int lots(int n, int z, int what) {
            if (!in(n, 1, 20) || !in(what, 0, 1)) {
                return -1;
            }
            State before = now;
            BigInteger[] seed = {BigInteger.valueOf(z)};
            int[] sums = {0, 0};
            for (int i = 0; i < n; i++) {
                now = before.deepCopy();
                for (int k = 0; k < 8; k++) {
                    int r = draw(seed, 4);
                    if (draw(seed, 3) == 0) {
                        root(r, -1);
                    } else {
                        int t = make(0, 0);
                        if (t >= 0) {
                            root(r, t);
                        }
                    }
                }
                for (int k = 0; k < 20; k++) {
                    now.tickOnce();
                }
                sums[0] += now.freeOfAll();
                sums[1] += now.things.size();
            }
            now = before;
            return sums[what];
        }

        private static int draw(BigInteger[] seed, int below) {
            BigInteger next = seed[0].multiply(BigInteger.valueOf(1103515245)).add(BigInteger.valueOf(12345));
            seed[0] = BigInteger.valueOf(next.intValue());
            return (next.intValue() << 1 >>> 17) % below;
        }

        private int restore() {
            if (image == null) {
                return -3;
            }
            now = image.deepCopy();
            return now.tick;
        }

        private int count(int what) {
            switch (what) {
                case 0: return bits(now.things.keySet());
                case 1: return now.tick;
                case 2: return now.share;
                case 3: return now.phase;
                case 4: return now.list.size();
                case 5: return now.phase == 2 ? now.sweep : -4;
                case 6: case 7: case 8: case 9: return told(now.roots[what - 6]);
                default: return -1;
            }
        }

        private int keep(int d, int what, int k, int figure) {
            if (!in(d, 0, 7) || !in(what, 0, 1) || what == 1 && !(in(k, 0, 7) && in(figure, 0, 9))) {
                return -1;
            }
            shelves[d] = what == 0 ? null : new Shelf();
            if (what == 1) {
                shelves[d].thing = new Thing(Kind.values()[k], figure);
            }
            return 0;
        }

        private int row(int d, int sort, int n) {
            if (!in(d, 0, 7) || !in(sort, 0, 2) || n > 100) {
                return -1;
            }
            if (n < 0) {
                return -14;
            }
            shelves[d] = new Shelf();
            shelves[d].sort = sort;
            shelves[d].row = new int[n];
            return 0;
        }

        private int put(int d, int i, int v) {
            if (rowRefusal(d) != 0) {
                return rowRefusal(d);
            }
            if (!in(i, 0, shelves[d].row.length - 1)) {
                return -13;
            }
            int above = new int[] {24, 16, 0}[shelves[d].sort];
            shelves[d].row[i] = v << above >> above;
            return 0;
        }

        private long element(int d, int i) {
            if (!in(d, 0, 7)) {
                return THROWS_ARGUMENT;
            }
            return rowRefusal(d) != 0 || !in(i, 0, shelves[d].row.length - 1) ? THROWS_STATE : shelves[d].row[i];
        }

        private int copy(int d, int i, int e, int j, int n) {
            if (!in(d, 0, 7) || !in(e, 0, 7)) {
                return -1;
            }
            if (shelves[d] == null || shelves[e] == null) {
                return -11;
            }
            if (shelves[d].row == null || shelves[e].row == null || shelves[d].sort != shelves[e].sort) {
                return -12;
            }
            int[] from = shelves[d].row.clone();
            int[] to = shelves[e].row;
            if (i < 0 || j < 0 || n < 0 || (long) i + n > from.length || (long) j + n > to.length) {
                return -13;
            }
            for (int k = 0; k < n; k++) {
                to[j + k] = from[i + k];
            }
            return n;
        }
    }
}
