import java.math.BigInteger;
import java.util.ArrayList;
import java.util.Arrays;
import java.util.Comparator;
import java.util.LinkedHashMap;
import java.util.List;
import java.util.Map;
import java.util.Random;
import java.util.function.BiConsumer;
import java.util.function.Consumer;

/**
 * Calls held against other calls of the same class, in states that come about by lot: what a call
 * tells in mind is done for real on a twin of the object, and both must agree. No second model is
 * needed for that, so what both models of a project might misread alike is seen here.
 */
public final class AgreeTest {
    private static final int STATES = 900;
    private static final int MOST_CALLS = 512;
    private static final int ROUNDS_AT_MOST = 110;

    private static int wrong = 0;
    private static int checks = 0;

    public static void main(String[] args) {
        Map<String, BiConsumer<State, Random>> agreements = agreements();
        for (int seed = 0; seed < STATES && wrong < 20; seed++) {
            State state = new State(new Random(seed * 104729L + 5));
            for (Map.Entry<String, BiConsumer<State, Random>> each : agreements.entrySet()) {
                state.asking = "state " + seed + ", " + each.getKey();
                each.getValue().accept(state, new Random(seed));
            }
        }
        System.out.println(checks + " agreements, " + wrong + " broken");
        if (wrong != 0) {
            System.exit(1);
        }
    }

    private static Map<String, BiConsumer<State, Random>> agreements() {
        Map<String, BiConsumer<State, Random>> all = new LinkedHashMap<>();
        all.put("then is what ticks do", AgreeTest::thenIsTicks);
        all.put("ends is when it is off", AgreeTest::endsIsWhenOff);
        all.put("gains is what a collection frees", AgreeTest::gainsIsFreed);
        all.put("least is of any ten ticks", AgreeTest::leastIsOfAnyTen);
        all.put("the program has its share", AgreeTest::programHasItsShare);
        all.put("what was reached as it began stays", AgreeTest::reachedStays);
        all.put("fits is what make does", AgreeTest::fitsIsMake);
        all.put("room is by sizes", AgreeTest::roomIsBySizes);
        all.put("runsOut is by ticks", AgreeTest::runsOutIsByTicks);
        all.put("best is by runsOut", AgreeTest::bestIsByRunsOut);
        all.put("reached is by links", AgreeTest::reachedIsByLinks);
        all.put("kept is what is let go", AgreeTest::keptIsLetGo);
        all.put("cut is the best root to cut", AgreeTest::cutIsBest);
        all.put("snip is the best link to cut", AgreeTest::snipIsBest);
        all.put("whatShare is who runs", AgreeTest::whatShareIsWhoRuns);
        all.put("judge is what ticks do", AgreeTest::judgeIsTicks);
        all.put("forged is by pages", AgreeTest::forgedIsByPages);
        all.put("long rows are leaves' numbers", AgreeTest::longRowsAreNumbers);
        all.put("lost lies between none and sure", AgreeTest::lostIsBetween);
        all.put("lots is programs done", AgreeTest::lotsIsProgramsDone);
        all.put("a program is its calls", AgreeTest::programIsItsCalls);
        all.put("comes is make", AgreeTest::comesIsMake);
        all.put("an image is all there is", AgreeTest::imageIsAll);
        return all;
    }

    private static void agree(State state, String what, long told, long seen) {
        checks++;
        if (told != seen) {
            wrong++;
            System.out.println(state.asking + ": " + what + " tells " + told + ", but it is " + seen);
        }
    }

    /** An object, asked for no more calls than the document promises anything of. */
    private static final class Twin {
        private final PromisedShare object = new PromisedShare();
        private int used = 0;

        PromisedShare on() {
            used++;
            if (used > MOST_CALLS) {
                throw new IllegalStateException("more than 512 calls of one object");
            }
            return object;
        }
    }

    /** A state of an object, as the calls that lead to it; what is not asked of it is done on twins. */
    private static final class State {
        private final List<Consumer<PromisedShare>> calls = new ArrayList<>();
        private final Twin x = new Twin();
        /** Who ran in all ticks: true the program. */
        final List<Boolean> ran = new ArrayList<>();
        private final Random lot;
        String asking = "";

        State(Random lot) {
            this.lot = lot;
            switch (lot.nextInt(3)) {
                case 0 -> makeSome(lot.nextInt(18), 8, 4);
                case 1 -> crowd();
                default -> linkMuch();
            }
            int most = 40 + lot.nextInt(70);
            int more = lot.nextBoolean() ? lot.nextInt(6) : 110;
            for (int i = 0; i < more && calls.size() < most; i++) {
                doSomething();
            }
        }

        private void makeSome(int things, int kinds, int figures) {
            for (int i = 0; i < things; i++) {
                int kind = lot.nextInt(kinds);
                int figure = lot.nextInt(lot.nextInt(3) == 0 ? 10 : figures);
                call(y -> y.make(kind, figure));
            }
        }

        /** Pages that are almost full, and in some states have room in bits, as some things are gone. */
        private void crowd() {
            List<Integer> linking = new ArrayList<>();
            for (int i = 0; i < 15; i++) {
                int kind = new int[] {5, 5, 5, 2, 0, 1, 3, 0}[i < 6 ? 0 : lot.nextInt(8)];
                int figure = kind == 5 ? 2 + lot.nextInt(7) : lot.nextInt(10);
                int t = x.object.make(kind, figure);
                calls.add(y -> y.make(kind, figure));
                if (t == 0) {
                    call(y -> y.root(0, 0));
                } else if (t > 0 && !linking.isEmpty() && lot.nextInt(5) != 0) {
                    int from = linking.get(lot.nextInt(linking.size()));
                    int l = lot.nextInt(3);
                    call(y -> y.link(from, l, t));
                }
                if (t >= 0 && kind != 1) {
                    linking.add(t);
                }
            }
            if (lot.nextInt(3) == 0) {
                call(y -> y.share(1));
                call(PromisedShare::begins);
                tickOn(34);
            }
        }

        /** Much that is reached, and a collection that has only begun. */
        private void linkMuch() {
            makeSome(16, 4, 2);
            for (int i = 0; i < 34; i++) {
                int t = lot.nextInt(16);
                int to = lot.nextInt(16);
                int l = lot.nextInt(3);
                call(i % 8 == 0 ? y -> y.root(l, t) : y -> y.link(t, l, to));
            }
            call(PromisedShare::begins);
            tickOn(lot.nextInt(4));
        }

        private void tickOn(int n) {
            for (int i = 0; i < n && x.object.count(3) != 0; i++) {
                ran.add(x.on().then(1, 2) == 1);
                call(y -> y.ticks(1));
            }
        }

        Twin twin() {
            Twin y = new Twin();
            for (Consumer<PromisedShare> each : calls) {
                each.accept(y.on());
            }
            return y;
        }

        private void call(Consumer<PromisedShare> call) {
            calls.add(call);
            call.accept(x.on());
        }

        private void doSomething() {
            int t = lot.nextInt(16);
            int to = lot.nextInt(17) - 1;
            int l = lot.nextInt(3);
            int v = lot.nextInt(10) == 0 ? lot.nextInt() : lot.nextInt(41) - 20;
            int figure = lot.nextInt(lot.nextInt(3) == 0 ? 10 : 4);
            switch (lot.nextInt(12)) {
                case 0 -> call(y -> y.make(t % 8, figure));
                case 1 -> call(y -> y.root(t % 4, to));
                case 2, 3, 4, 5 -> call(y -> y.link(t, l, to));
                case 6 -> call(y -> y.set(t, l, v));
                case 7 -> call(PromisedShare::begins);
                case 8 -> call(y -> y.share(1 + t % 10));
                default -> {
                    ran.add(x.on().then(1, 2) == 1);
                    call(y -> y.ticks(1));
                }
            }
        }
    }

    // ---- what can be seen of an object

    private static List<Integer> things(Twin x) {
        List<Integer> all = new ArrayList<>();
        int bits = x.on().count(0);
        for (int t = 0; t < 16; t++) {
            if ((bits >> t & 1) != 0) {
                all.add(t);
            }
        }
        return all;
    }

    private static int units(Twin x, int bits) {
        int sum = 0;
        for (int t = 0; t < 16; t++) {
            sum += (bits >> t & 1) == 0 ? 0 : x.on().thing(t, 2);
        }
        return sum;
    }

    private static List<Long> look(Twin x) {
        List<Long> seen = new ArrayList<>();
        for (int what = 0; what <= 9; what++) {
            seen.add((long) x.on().count(what));
        }
        seen.add((long) x.on().reached(3));
        seen.add((long) x.on().ends());
        for (int n = 1; n <= 12; n++) {
            seen.add((long) x.on().then(n, 2));
        }
        for (int t : things(x)) {
            for (int what = 0; what <= 3; what++) {
                seen.add((long) x.on().thing(t, what));
            }
            int links = x.on().thing(t, 5);
            for (int l = 0; l < links; l++) {
                seen.add((long) x.on().linked(t, l));
            }
            int numbers = x.on().thing(t, 6);
            for (int i = 0; i < numbers; i++) {
                long old = x.on().set(t, i, 0);
                x.on().set(t, i, (int) old);
                seen.add(old);
            }
        }
        return seen;
    }

    // ---- ticks

    private static void thenIsTicks(State state, Random lot) {
        Twin x = state.twin();
        Twin y = state.twin();
        int ran = 0;
        for (int n = 0; n < 100; n++) {
            int last = n == 0 ? -4 : y.on().ticks(1);
            ran += Math.max(last, 0);
            agree(state, "then " + n + " 2", x.on().then(n, 2), last);
            agree(state, "then " + n + " 3", x.on().then(n, 3), ran);
            if (n % 4 == 0) {
                agree(state, "then " + n + " 0", x.on().then(n, 0), y.on().free(-1));
                agree(state, "then " + n + " 1", x.on().then(n, 1), y.on().count(0));
            }
        }
    }

    private static int ticksTillOff(Twin x) {
        for (int n = 0; n < 100; n++) {
            if (x.on().count(3) == 0) {
                return n;
            }
            x.on().ticks(1);
        }
        return -4;
    }

    private static void endsIsWhenOff(State state, Random lot) {
        agree(state, "ends", state.twin().on().ends(), ticksTillOff(state.twin()));
    }

    private static void gainsIsFreed(State state, Random lot) {
        Twin x = state.twin();
        int gains = x.on().gains();
        if (x.on().count(3) != 0) {
            agree(state, "gains, not off", gains, -3);
            return;
        }
        int free = x.on().free(-1);
        x.on().begins();
        x.on().share(1);
        agree(state, "its end", x.on().ends() < 0 ? 0 : 1, 1);
        ticksTillOff(x);
        agree(state, "gains", gains, x.on().free(-1) - free);
        agree(state, "garbage behind it", x.on().reached(1), 0);
    }

    private static void leastIsOfAnyTen(State state, Random lot) {
        Twin x = state.twin();
        Twin y = state.twin();
        List<Boolean> all = new ArrayList<>();
        for (int i = 0; i < 9; i++) {
            int at = state.ran.size() - 9 + i;
            all.add(at < 0 || state.ran.get(at));
        }
        int least = 10;
        for (int n = 1; n <= 60; n++) {
            all.add(y.on().ticks(1) == 1);
            int ofTen = 0;
            for (boolean program : all.subList(all.size() - 10, all.size())) {
                ofTen += program ? 1 : 0;
            }
            least = Math.min(least, ofTen);
            agree(state, "least " + n, x.on().least(n), least);
        }
    }

    /** "in any ten ticks on end the program has its share", whatever it does meanwhile. */
    private static void programHasItsShare(State state, Random lot) {
        Twin x = new Twin();
        int share = 1 + lot.nextInt(10);
        x.on().share(share);
        List<Integer> ran = new ArrayList<>();
        for (int i = 0; i < 100; i++) {
            x.on().make(lot.nextInt(8), lot.nextInt(3));
            x.on().root(lot.nextInt(4), lot.nextInt(16));
            x.on().link(lot.nextInt(16), lot.nextInt(3), lot.nextInt(16));
            x.on().begins();
            ran.add(x.on().ticks(1));
        }
        for (int i = 0; i + 10 <= ran.size(); i++) {
            int ofTen = ran.subList(i, i + 10).stream().mapToInt(r -> r).sum();
            agree(state, "the share " + share + " from tick " + i, Math.min(ofTen, share), share);
        }
    }

    /** It marks from what was reached as it began: that stays to its end, and so do new ones. */
    private static void reachedStays(State state, Random lot) {
        Twin x = state.twin();
        x.on().share(1);
        while (x.on().count(3) != 0) {
            x.on().ticks(1);
        }
        int stays = x.on().reached(0);
        x.on().begins();
        x.on().share(1 + lot.nextInt(7));
        for (int i = 0; i < ROUNDS_AT_MOST && x.on().count(3) != 0; i++) {
            int made = lot.nextInt(5) == 0 ? x.on().make(lot.nextInt(8), lot.nextInt(5)) : -2;
            stays |= made >= 0 ? 1 << made : 0;
            x.on().link(lot.nextInt(16), lot.nextInt(3), lot.nextInt(17) - 1);
            x.on().root(lot.nextInt(4), lot.nextInt(17) - 1);
            x.on().ticks(1);
            agree(state, "those that stay", x.on().count(0) & stays, stays);
        }
    }

    // ---- room

    private static int kindOfSize(int s) {
        return new int[] {4, 0, 2, 1}[Math.min(s, 4) - 1];
    }

    private static void fitsIsMake(State state, Random lot) {
        for (int s = 1; s <= 12; s++) {
            Twin x = state.twin();
            int moved = x.on().fits(s, 0);
            int page = x.on().fits(s, 1);
            int[] pages = new int[16];
            for (int t = 0; t < 16; t++) {
                pages[t] = x.on().thing(t, 3);
            }
            int t = s > 4 ? x.on().make(5, s - 3) : x.on().make(kindOfSize(s), 0);
            if (t < 0) {
                agree(state, "make where it fits, size " + s, page == -2 || Integer.bitCount(x.on().count(0)) == 16 ? 1 : 0, 1);
                continue;
            }
            int changed = 0;
            for (int other = 0; other < 16; other++) {
                changed += other != t && x.on().thing(other, 3) != pages[other] ? 1 : 0;
            }
            agree(state, "fits 1, size " + s, page, x.on().thing(t, 3));
            // A thing that is moved twice counts twice: more is told than is seen.
            agree(state, "fits 0, size " + s, Math.min(moved, changed), changed);
            agree(state, "fits 0 at all, size " + s, moved > 0 ? 1 : 0, changed > 0 ? 1 : 0);
        }
    }

    private static void roomIsBySizes(State state, Random lot) {
        Twin x = state.twin();
        int[] free = {12, 12, 12, 12, 12, 12};
        for (int t : things(x)) {
            free[x.on().thing(t, 3)] -= x.on().thing(t, 2);
        }
        int all = Arrays.stream(free).sum();
        int greatest = Arrays.stream(free).max().getAsInt();
        List<Integer> order = new ArrayList<>(List.of(0, 1, 2, 3, 4, 5));
        order.sort(Comparator.comparingInt(p -> -free[p]));
        for (int p = 0; p < 6; p++) {
            agree(state, "free " + p, x.on().free(p), free[p]);
            agree(state, "sorted " + p, x.on().sorted(p), order.get(p));
        }
        agree(state, "free of all", x.on().free(-1), all);
        agree(state, "greatest free", x.on().free(-2), greatest);
        agree(state, "lost room", x.on().free(-3), all - greatest);
        agree(state, "used, crosswise", x.on().used(0) * 72, (72 - all) * x.on().used(1));
        int common = BigInteger.valueOf(x.on().used(0)).gcd(BigInteger.valueOf(x.on().used(1))).intValue();
        agree(state, "used, in least terms", common, 1);
    }

    private static int runsOutForReal(Twin x, int rate) {
        if (x.on().count(3) == 0) {
            x.on().begins();
        }
        int taken = 0;
        for (int n = 1; n <= 99; n++) {
            taken += rate * x.on().ticks(1);
            if (x.on().free(-1) < taken) {
                return n;
            }
            if (x.on().count(3) == 0) {
                return -4;
            }
        }
        return -4;
    }

    private static void runsOutIsByTicks(State state, Random lot) {
        for (int rate = 0; rate <= 12; rate++) {
            agree(state, "runsOut " + rate, state.twin().on().runsOut(rate), runsOutForReal(state.twin(), rate));
        }
    }

    private static void bestIsByRunsOut(State state, Random lot) {
        Twin x = state.twin();
        int bestRate = -4;
        for (int rate = 0; rate <= 12; rate++) {
            bestRate = x.on().runsOut(rate) == -4 ? rate : bestRate;
        }
        agree(state, "best rate", x.on().best(-1), bestRate);
        for (int rate = 0; rate <= 12; rate++) {
            int best = -4;
            int told = x.on().best(rate);
            int share = x.on().count(2);
            for (int s = 1; s <= 10; s++) {
                x.on().share(s);
                best = x.on().runsOut(rate) == -4 ? s : best;
            }
            x.on().share(share);
            agree(state, "best share by " + rate, told, best);
        }
    }

    // ---- what is reached

    private static void reachedIsByLinks(State state, Random lot) {
        Twin x = state.twin();
        int[] depth = new int[16];
        Arrays.fill(depth, -4);
        List<Integer> row = new ArrayList<>();
        for (int r = 0; r < 4; r++) {
            int t = x.on().count(6 + r);
            if (t >= 0 && depth[t] < 0) {
                depth[t] = 0;
                row.add(t);
            }
        }
        for (int i = 0; i < row.size(); i++) {
            int t = row.get(i);
            for (int l = 0; x.on().thing(t, 0) != 4 && l < x.on().thing(t, 5); l++) {
                int to = x.on().linked(t, l);
                if (to >= 0 && depth[to] < 0) {
                    depth[to] = depth[t] + 1;
                    row.add(to);
                }
            }
        }
        int reached = 0;
        int marked = 0;
        for (int t : things(x)) {
            reached |= depth[t] < 0 ? 0 : 1 << t;
            marked |= x.on().thing(t, 4) << t;
            agree(state, "depth of " + t, x.on().thing(t, 7), depth[t]);
        }
        agree(state, "reached", x.on().reached(0), reached);
        agree(state, "garbage", x.on().reached(1), x.on().count(0) & ~reached);
        agree(state, "floating", x.on().reached(2), x.on().count(0) & ~reached & marked);
        agree(state, "marked", x.on().reached(3), marked);
        agree(state, "on the list, at most those marked", Math.min(x.on().count(4), Integer.bitCount(marked)), x.on().count(4));
        agree(state, "a page to be swept", x.on().count(5) >= 0 ? 1 : 0, x.on().count(3) == 2 ? 1 : 0);
    }

    private static void keptIsLetGo(State state, Random lot) {
        for (int t : things(state.twin())) {
            Twin x = state.twin();
            int kept = x.on().kept(t);
            int reached = x.on().reached(0);
            for (int r = 0; r < 4; r++) {
                if (x.on().count(6 + r) == t) {
                    x.on().root(r, -1);
                }
            }
            for (int from : things(x)) {
                for (int l = 0; l < x.on().thing(from, 5); l++) {
                    if (x.on().linked(from, l) == t) {
                        x.on().link(from, l, -1);
                    }
                }
            }
            agree(state, "kept by " + t, kept, reached & ~x.on().reached(0));
        }
    }

    private static void cutIsBest(State state, Random lot) {
        int best = 0;
        int most = 0;
        for (int r = 0; r < 4; r++) {
            Twin x = state.twin();
            int garbage = x.on().reached(1);
            x.on().root(r, -1);
            int more = units(x, x.on().reached(1) & ~garbage);
            if (more > most) {
                most = more;
                best = r;
            }
        }
        agree(state, "cut 0", state.twin().on().cut(0), best);
        agree(state, "cut 1", state.twin().on().cut(1), most);
    }

    private static void snipIsBest(State state, Random lot) {
        Twin x = state.twin();
        int best = -4;
        int most = 0;
        for (int t : things(x)) {
            for (int l = 0; l < x.on().thing(t, 5); l++) {
                Twin y = state.twin();
                int garbage = y.on().reached(1);
                y.on().link(t, l, -1);
                int more = units(y, y.on().reached(1) & ~garbage);
                if (more > most) {
                    most = more;
                    best = 10 * t + l;
                }
            }
        }
        agree(state, "snip 0", x.on().snip(0), best);
        agree(state, "snip 1", x.on().snip(1), most == 0 ? -4 : most);
    }

    // ---- rows that tell something

    private static void putRow(Twin x, int d, int sort, int[] elements) {
        x.on().row(d, sort, elements.length);
        for (int i = 0; i < elements.length; i++) {
            x.on().put(d, i, elements[i]);
        }
    }

    private static int leastOf(int sort) {
        return new int[] {Byte.MIN_VALUE, Short.MIN_VALUE, Integer.MIN_VALUE}[sort];
    }

    private static void whatShareIsWhoRuns(State state, Random lot) {
        int length = lot.nextInt(25);
        int sort = lot.nextInt(3);
        int[][] ran = new int[11][length];
        for (int s = 1; s <= 10; s++) {
            Twin x = state.twin();
            x.on().share(s);
            for (int i = 0; i < length; i++) {
                ran[s][i] = x.on().ticks(1);
            }
        }
        for (int s = 1; s <= 10; s++) {
            int[] row = ran[s].clone();
            for (int i = 0; i < length; i++) {
                row[i] = lot.nextInt(3) == 0 ? leastOf(sort) : row[i];
            }
            int shares = 0;
            for (int other = 1; other <= 10; other++) {
                boolean so = true;
                for (int i = 0; i < length; i++) {
                    so &= row[i] == leastOf(sort) || row[i] == ran[other][i];
                }
                shares |= so ? 1 << other : 0;
            }
            Twin x = state.twin();
            putRow(x, 3, sort, row);
            agree(state, "whatShare by the row of " + s, x.on().whatShare(3), shares);
        }
    }

    private static void judgeIsTicks(State state, Random lot) {
        int sort = lot.nextInt(3);
        int[] row = new int[80];
        Twin x = state.twin();
        for (int i = 0; i < row.length; i++) {
            row[i] = lot.nextInt(4) == 0 ? leastOf(sort) : x.on().free(-1);
            x.on().ticks(1);
        }
        Twin y = state.twin();
        putRow(y, 0, sort, row);
        agree(state, "judge", y.on().judge(0), -4);
        int place = lot.nextInt(row.length);
        y.on().put(0, place, row[place] == leastOf(sort) ? -1 : row[place] + 1);
        agree(state, "judge of a wrong one", y.on().judge(0), place);
    }

    private static void forgedIsByPages(State state, Random lot) {
        Twin x = state.twin();
        int[] row = new int[lot.nextInt(17)];
        for (int t = 0; t < row.length; t++) {
            row[t] = x.on().thing(t, 3) < 0 ? 6 : x.on().thing(t, 3);
        }
        putRow(x, 7, lot.nextInt(3), row);
        agree(state, "forged", x.on().forged(7), -4);
        for (int place = row.length - 1; place >= 0; place--) {
            x.on().put(7, place, row[place] + 1 + lot.nextInt(5));
            agree(state, "forged at " + place, x.on().forged(7), place);
        }
    }

    private static void longRowsAreNumbers(State state, Random lot) {
        Twin x = state.twin();
        for (int t : things(x)) {
            if (x.on().thing(t, 0) != 2 && x.on().thing(t, 0) != 5) {
                agree(state, "number of no spine", x.on().number(t, -1), 10000000003L);
                continue;
            }
            List<Integer> all = new ArrayList<>();
            for (int l = 0; l < 3; l++) {
                int to = x.on().linked(t, l);
                for (int i = 0; to >= 0 && i < x.on().thing(to, 6); i++) {
                    int old = (int) x.on().set(to, i, 0);
                    x.on().set(to, i, old);
                    all.add(old);
                }
            }
            agree(state, "how many numbers", x.on().number(t, -1), all.size());
            agreeOnHorner(state, x, t, all, lot.nextInt(7) - 3);
            putRow(x, 1, 2, all.stream().mapToInt(v -> v).toArray());
            agree(state, "same", x.on().same(1, t), -4);
            for (int i = 0; i < all.size(); i++) {
                agree(state, "number " + i, x.on().number(t, i), all.get(i));
            }
            if (!all.isEmpty()) {
                int place = lot.nextInt(all.size());
                x.on().put(1, place, all.get(place) + 1);
                agree(state, "same of a wrong one", x.on().same(1, t), place);
            }
        }
    }

    private static void agreeOnHorner(State state, Twin x, int t, List<Integer> all, int by) {
        BigInteger value = BigInteger.ZERO;
        for (int v : all) {
            BigInteger product = value.multiply(BigInteger.valueOf(by));
            value = product.add(BigInteger.valueOf(v));
            if (product.bitLength() > 31 || value.bitLength() > 31) {
                agree(state, "horner too much", x.on().horner(t, by), 10000000005L);
                return;
            }
        }
        agree(state, "horner", x.on().horner(t, by), value.longValue());
    }

    // ---- lost ticks, programs by lot

    private static void lostIsBetween(State state, Random lot) {
        Twin x = state.twin();
        int ends = x.on().ends();
        double before = 0;
        for (int n = 0; n <= 8; n++) {
            int t = 2 + lot.nextInt(18);
            long above = x.on().lost(n, t, 0);
            long below = x.on().lost(n, t, 1);
            agree(state, "lost " + n + ", in least terms", BigInteger.valueOf(above).gcd(BigInteger.valueOf(below)).longValue(), 1);
            agree(state, "lost " + n + ", at all", above > 0 ? 1 : 0, ends >= 0 && ends <= n ? 1 : 0);
            agree(state, "lost " + n + ", sure", above == below ? 1 : 0, ends == 0 ? 1 : 0);
            double less = (double) x.on().lost(n, 2, 0) / x.on().lost(n, 2, 1);
            agree(state, "lost " + n + ", no less by a tick more", less >= before ? 1 : 0, 1);
            agree(state, "lost " + n + ", no less by better odds", less <= (double) above / below ? 1 : 0, 1);
            before = less;
        }
    }

    private static void lotsIsProgramsDone(State state, Random lot) {
        int n = 1 + lot.nextInt(4);
        int seed = lot.nextInt();
        int z = seed;
        int free = 0;
        int things = 0;
        for (int i = 0; i < n; i++) {
            Twin x = state.twin();
            for (int k = 0; k < 8; k++) {
                z = z * 1103515245 + 12345;
                int r = (z & Integer.MAX_VALUE) / 65536 % 4;
                z = z * 1103515245 + 12345;
                boolean none = (z & Integer.MAX_VALUE) / 65536 % 3 == 0;
                int t = none ? -1 : x.on().make(0, 0);
                if (t >= -1) {
                    x.on().root(r, t);
                }
            }
            x.on().ticks(20);
            free += x.on().free(-1);
            things += Integer.bitCount(x.on().count(0));
        }
        Twin x = state.twin();
        agree(state, "lots 0", x.on().lots(n, seed, 0), free);
        agree(state, "lots 1", x.on().lots(n, seed, 1), things);
    }

    // ---- texts, shelves, the image

    /** A statement's text, and whether the calls in its place were refused. */
    private static String doStatement(Twin x, Random lot, boolean[] refused) {
        int a = lot.nextInt(lot.nextInt(6) == 0 ? 20 : 4);
        int b = lot.nextInt(4);
        int c = lot.nextInt(lot.nextInt(3) == 0 ? 16 : 5);
        boolean there = x.on().thing(c, 0) >= 0;
        switch (lot.nextInt(9)) {
            case 0:
                refused[0] = x.on().make(a, c) < 0;
                return "make " + a + " " + c;
            case 1:
                refused[0] = !there || x.on().root(a, c) == -1;
                return "root " + a + " " + c;
            case 2:
                refused[0] = x.on().root(a, -1) == -1;
                return "drop " + a;
            case 3:
                refused[0] = !there || x.on().link(a, b, c) == -1;
                return "link " + a + " " + b + " " + c;
            case 4:
                refused[0] = x.on().link(a, b, -1) == -1;
                return "cut " + a + " " + b;
            case 5:
                refused[0] = x.on().begins() < 0;
                return "go";
            case 6:
                refused[0] = x.on().ticks(c) < 0;
                return "tick " + c;
            case 7:
                refused[0] = x.on().share(c) < 0;
                return "share " + c;
            default:
                refused[0] = x.on().set(a, b, c) >= 10000000000L;
                return "set " + a + " " + b + " " + c;
        }
    }

    private static void programIsItsCalls(State state, Random lot) {
        Twin done = state.twin();
        Twin told = state.twin();
        List<Long> before = look(state.twin());
        StringBuilder text = new StringBuilder();
        boolean[] refused = {false};
        int statements = 0;
        int fault = 0;
        while (text.length() < 85 && !refused[0] && lot.nextInt(8) != 0) {
            text.append(statements == 0 ? "" : ";");
            fault = text.length();
            text.append(doStatement(done, lot, refused));
            statements++;
        }
        putRow(told, 5, 0, text.chars().toArray());
        long due = statements == 0 ? -1000 : refused[0] ? -2000 - fault : statements;
        agree(state, "program " + text, told.on().program(5), due);
        agree(state, "all behind " + text, look(told).equals(due < 0 ? before : look(done)) ? 1 : 0, 1);
    }

    private static void comesIsMake(State state, Random lot) {
        int kind = lot.nextInt(8);
        int figure = lot.nextInt(10);
        Twin x = state.twin();
        Twin y = state.twin();
        x.on().keep(6, 1, kind, figure);
        int cost = x.on().cost(6);
        for (int i = 0; i < 2; i++) {
            agree(state, "comes", x.on().comes(6), y.on().make(kind, figure));
        }
        agree(state, "all behind comes", look(x).equals(look(y)) ? 1 : 0, 1);
        agree(state, "it stays there", x.on().cost(6), cost);
    }

    private static void imageIsAll(State state, Random lot) {
        Twin x = state.twin();
        List<Long> before = look(state.twin());
        agree(state, "image", x.on().image(), x.on().count(1));
        for (int round = 0; round < 2; round++) {
            for (int i = 0; i < 12; i++) {
                x.on().make(lot.nextInt(8), lot.nextInt(10));
                x.on().link(lot.nextInt(16), lot.nextInt(3), lot.nextInt(17) - 1);
                x.on().root(lot.nextInt(4), lot.nextInt(17) - 1);
                x.on().set(lot.nextInt(16), lot.nextInt(4), lot.nextInt());
            }
            x.on().share(1 + lot.nextInt(10));
            x.on().begins();
            x.on().ticks(30);
            int tick = x.on().restore();
            agree(state, "restore", tick, x.on().count(1));
        }
        agree(state, "all behind restore", look(x).equals(before) ? 1 : 0, 1);
    }
}
