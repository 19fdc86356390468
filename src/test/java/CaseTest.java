import java.io.IOException;
import java.lang.reflect.InvocationTargetException;
import java.lang.reflect.Method;
import java.lang.reflect.Modifier;
import java.nio.file.Files;
import java.nio.file.Path;
import java.util.ArrayList;
import java.util.Arrays;
import java.util.HashMap;
import java.util.List;
import java.util.Map;
import java.util.regex.Matcher;
import java.util.regex.Pattern;

/**
 * Runs src/test/boundaries.txt, the document's sentences, each with runs of calls on new objects and
 * the answers that are due, and src/test/longruns.txt, in which many promises meet on one object.
 * A sentence that the document does not have is a fault of the test, and so is a part of the
 * document's terms and promises that no sentence there quotes.
 */
public final class CaseTest {
    private static final Path BOUNDARIES = Path.of("src/test/boundaries.txt");
    private static final Path LONG_RUNS = Path.of("src/test/longruns.txt");
    private static final Path DOCUMENT = Path.of("../shared/DOC.md");
    /** An object is used for at most so many calls. */
    private static final int MOST_CALLS = 512;
    private static final Map<String, Method> FACE = face();

    private static Path reading = BOUNDARIES;
    private static int wrong = 0;
    private static int checks = 0;
    private static int sentences = 0;

    public static void main(String[] args) throws IOException {
        Quotes quotes = new Quotes(Files.readString(DOCUMENT));
        readFile(BOUNDARIES, quotes);
        quotes.checkAllQuoted();
        readFile(LONG_RUNS, quotes);
        System.out.println(sentences + " sentences, " + checks + " checks, " + wrong + " wrong");
        if (wrong != 0) {
            System.exit(1);
        }
    }

    private static void readFile(Path file, Quotes quotes) throws IOException {
        reading = file;
        new Cases(quotes).readAll(Files.readAllLines(file));
    }

    private static void fail(int line, String words) {
        wrong++;
        System.out.println(reading + ":" + line + ": " + words);
    }

    private static Map<String, Method> face() {
        Map<String, Method> all = new HashMap<>();
        for (Method m : PromisedShare.class.getDeclaredMethods()) {
            if (Modifier.isPublic(m.getModifiers())) {
                all.put(m.getName(), m);
            }
        }
        return all;
    }

    /** A call as a case tells it; due is null where the answer is only not to be a refusal. */
    private record Call(String name, int[] args, String due, boolean changesNothing, int line) {
        String on(PromisedShare x) {
            Object[] all = Arrays.stream(args).boxed().toArray();
            try {
                return String.valueOf(FACE.get(name).invoke(x, all));
            } catch (InvocationTargetException e) {
                return "throws." + e.getCause().getClass().getSimpleName();
            } catch (IllegalAccessException e) {
                throw new AssertionError(e);
            }
        }

        boolean isDue(String answer) {
            return due == null ? !answer.startsWith("-") && !answer.startsWith("throws") : answer.equals(due);
        }

        public String toString() {
            return name + Arrays.toString(args).replace('[', '(').replace(']', ')');
        }
    }

    /** The document's text, and which of it is quoted by a case. */
    private static final class Quotes {
        private final String text;
        private final boolean[] quoted;
        private int sectionFrom;
        private int sectionTo;

        Quotes(String document) {
            text = folded(document);
            quoted = new boolean[text.length()];
            sectionTo = text.length();
        }

        static String folded(String words) {
            return words.replaceAll("\\s+", " ");
        }

        void section(String title, int line) {
            int at = text.indexOf("## " + title);
            if (at < 0) {
                fail(line, "the document has no section " + title);
                return;
            }
            sectionFrom = at;
            int next = text.indexOf(" ## ", at);
            sectionTo = next < 0 ? text.length() : next;
        }

        void quote(String words, int line) {
            int at = text.indexOf(folded(words), sectionFrom);
            if (at < 0 || at + words.length() > sectionTo) {
                fail(line, "the document does not say here: " + words);
                return;
            }
            Arrays.fill(quoted, at, at + folded(words).length(), true);
        }

        /** Headings, signatures and what is said of the interface's order need no test here. */
        void checkAllQuoted() {
            String unquoted = "## [^`]*?(?=`)|## Terms|`[^`]*\\)( throws [A-Za-z, ]*)?`:|```(text)?|==== I+\\."
                + "|Ahead of the calls [^-]*---- [^.]*\\.";
            Matcher m = Pattern.compile(unquoted).matcher(text);
            while (m.find()) {
                Arrays.fill(quoted, m.start(), m.end(), true);
            }
            int to = text.indexOf("## Not promised");
            StringBuilder run = new StringBuilder();
            for (int i = text.indexOf("## Terms"); i <= to; i++) {
                if (i < to && !quoted[i]) {
                    run.append(text.charAt(i));
                } else {
                    if (!run.toString().matches("[ .,;:()]*")) {
                        fail(0, "no case quotes: " + run);
                    }
                    run.setLength(0);
                }
            }
        }
    }

    /** Reads the file of cases, and runs each run as soon as it is read whole. */
    private static final class Cases {
        private static final Pattern TOKEN = Pattern.compile(
            "\\$(?<let>\\w+)"
            + "|<(?<text>[^>]*)>(?<tsign>[=!])(?<tdue>-?\\d+)"
            + "|\\[(?<shelf>\\d),(?<sort>\\d):(?<row>[^\\]]*)\\]"
            + "|(?:(?<times>\\d+)\\*)?(?<name>\\w+)\\((?<args>[^)]*)\\)(?:(?<sign>[=!])(?<due>[\\w.-]+(?:,[\\w.-]+)*))?");

        private final Quotes quotes;
        private final Map<String, String> lets = new HashMap<>();
        private final List<Call> run = new ArrayList<>();
        private final StringBuilder sentence = new StringBuilder();
        private int sentenceLine;
        private boolean hasRun = true;

        Cases(Quotes quotes) {
            this.quotes = quotes;
        }

        void readAll(List<String> lines) {
            for (int i = 0; i < lines.size(); i++) {
                readLine(lines.get(i).strip(), i + 1);
            }
            endSentence();
        }

        private void readLine(String line, int number) {
            if (line.startsWith("## ")) {
                endSentence();
                quotes.section(line.substring(3), number);
            } else if (line.startsWith("> ")) {
                if (!run.isEmpty() || hasRun) {
                    endSentence();
                    sentenceLine = number;
                    hasRun = false;
                }
                sentence.append(sentence.length() == 0 ? "" : " ").append(line.substring(2));
            } else if (line.startsWith("let ")) {
                lets.put(line.substring(4, line.indexOf('=')).strip(), line.substring(line.indexOf('=') + 1));
            } else if (line.equals("---")) {
                endRun();
            } else if (!line.isEmpty() && !line.startsWith("#")) {
                readCalls(line, number);
            }
        }

        private void endSentence() {
            endRun();
            if (sentence.length() > 0) {
                sentences++;
                quotes.quote(sentence.toString(), sentenceLine);
                if (!hasRun) {
                    fail(sentenceLine, "a sentence without a test: " + sentence);
                }
            }
            sentence.setLength(0);
            hasRun = true;
        }

        private void endRun() {
            if (!run.isEmpty()) {
                new Run(run).check();
                run.clear();
                hasRun = true;
            }
        }

        private void readCalls(String line, int number) {
            Matcher m = TOKEN.matcher(line);
            int from = 0;
            while (m.find()) {
                if (!line.substring(from, m.start()).isBlank()) {
                    fail(number, "no call: " + line.substring(from, m.start()));
                }
                from = m.end();
                readToken(m, number);
            }
            if (!line.substring(from).isBlank()) {
                fail(number, "no call: " + line.substring(from));
            }
        }

        private void readToken(Matcher m, int number) {
            if (m.group("let") != null) {
                String calls = lets.get(m.group("let"));
                if (calls == null) {
                    fail(number, "no such let: " + m.group("let"));
                } else {
                    readCalls(calls, number);
                }
            } else if (m.group("text") != null) {
                int[] bytes = m.group("text").chars().toArray();
                addRow(0, 0, bytes, number);
                add("program", new int[] {0}, m.group("tdue"), m.group("tsign").equals("!"), number);
            } else if (m.group("row") != null) {
                String[] told = m.group("row").isEmpty() ? new String[0] : m.group("row").split(",");
                int[] elements = Arrays.stream(told).mapToInt(Cases::number).toArray();
                addRow(number(m.group("shelf")), number(m.group("sort")), elements, number);
            } else {
                int times = m.group("times") == null ? 1 : number(m.group("times"));
                for (int i = 0; i < times; i++) {
                    addAll(m, number);
                }
            }
        }

        /** Every call that the braces among the arguments tell of. */
        private void addAll(Matcher m, int number) {
            List<int[]> all = new ArrayList<>();
            all.add(new int[0]);
            Matcher each = Pattern.compile("\\{([^}]*)\\}|[\\w-]+").matcher(m.group("args"));
            while (each.find()) {
                List<Integer> values = values(each.group(1) == null ? each.group() : each.group(1));
                List<int[]> longer = new ArrayList<>();
                for (int[] ahead : all) {
                    for (int v : values) {
                        int[] more = Arrays.copyOf(ahead, ahead.length + 1);
                        more[ahead.length] = v;
                        longer.add(more);
                    }
                }
                all = longer;
            }
            String[] dues = m.group("due") == null ? new String[] {null} : m.group("due").split(",");
            if (dues.length != 1 && dues.length != all.size()) {
                fail(number, dues.length + " answers for " + all.size() + " calls: " + m.group());
                return;
            }
            for (int i = 0; i < all.size(); i++) {
                String due = dues[dues.length == 1 ? 0 : i];
                add(m.group("name"), all.get(i), due, "!".equals(m.group("sign")), number);
            }
        }

        private static List<Integer> values(String told) {
            List<Integer> values = new ArrayList<>();
            for (String each : told.split(",")) {
                int dots = each.indexOf("..");
                int from = number(dots < 0 ? each : each.substring(0, dots));
                int to = number(dots < 0 ? each : each.substring(dots + 2));
                for (int v = from; dots >= 0 && v < to; v++) {
                    values.add(v);
                }
                values.add(to);
            }
            return values;
        }

        private static int number(String told) {
            switch (told.strip()) {
                case "MIN": return Integer.MIN_VALUE;
                case "MAX": return Integer.MAX_VALUE;
                default: return Integer.parseInt(told.strip());
            }
        }

        private void addRow(int shelf, int sort, int[] elements, int number) {
            add("row", new int[] {shelf, sort, elements.length}, "0", false, number);
            for (int i = 0; i < elements.length; i++) {
                add("put", new int[] {shelf, i, elements[i]}, "0", false, number);
            }
        }

        private void add(String name, int[] args, String due, boolean changesNothing, int number) {
            Method m = FACE.get(name);
            if (m == null || m.getParameterCount() != args.length) {
                fail(number, "no such call: " + name + Arrays.toString(args));
            } else {
                run.add(new Call(name, args, due, changesNothing, number));
            }
        }
    }

    /** The calls of one object. */
    private static final class Run {
        private final List<Call> calls;

        Run(List<Call> calls) {
            this.calls = List.copyOf(calls);
        }

        void check() {
            if (calls.size() > MOST_CALLS) {
                fail(calls.get(0).line(), calls.size() + " calls of one object");
            }
            PromisedShare x = new PromisedShare();
            List<String> seen = null;
            for (int i = 0; i < calls.size(); i++) {
                Call call = calls.get(i);
                checks++;
                String answer = call.on(x);
                if (!call.isDue(answer)) {
                    fail(call.line(), call + " answered " + answer + ", due is " + call.due());
                }
                if (!call.changesNothing()) {
                    seen = null;
                    continue;
                }
                if (i > MOST_CALLS - Look.CALLS_OF_TICKS - 2) {
                    fail(call.line(), call + " comes too late for what is behind it to be seen");
                }
                List<String> ahead = seen != null ? seen : new Look(calls.subList(0, i)).seen;
                seen = new Look(calls.subList(0, i + 1)).seen;
                tellFirstChange(call, ahead, seen);
            }
        }

        private static void tellFirstChange(Call call, List<String> ahead, List<String> behind) {
            for (int i = 0; i < ahead.size() && i < behind.size(); i++) {
                if (!ahead.get(i).equals(behind.get(i))) {
                    fail(call.line(), call + " changed something: " + ahead.get(i) + " became " + behind.get(i));
                    return;
                }
            }
            if (ahead.size() != behind.size()) {
                fail(call.line(), call + " changed something");
            }
        }
    }

    /** All that can be seen of an object behind some calls, by objects of which each is used for few enough calls. */
    private static final class Look {
        static final int CALLS_OF_TICKS = 180;
        final List<String> seen = new ArrayList<>();
        private List<Call> ahead;
        private PromisedShare x;
        private int used;

        Look(List<Call> ahead) {
            this.ahead = ahead;
            lookAtHeap();
            lookAtShelves();
            lookAtNumbers();
            lookAtTicks();
            this.ahead = new ArrayList<>(ahead);
            this.ahead.add(new Call("restore", new int[0], null, false, 0));
            lookAtHeap();
            lookAtNumbers();
            lookAtTicks();
        }

        private void makeNew() {
            x = new PromisedShare();
            for (Call each : ahead) {
                each.on(x);
            }
            used = ahead.size();
        }

        private String ask(String name, int... args) {
            if (used >= MOST_CALLS && ahead.size() < MOST_CALLS) {
                makeNew();
            }
            used++;
            Call call = new Call(name, args, null, false, 0);
            String answer = call.on(x);
            seen.add(call + " " + answer);
            return answer;
        }

        private void lookAtHeap() {
            makeNew();
            for (int what = 0; what <= 9; what++) {
                ask("count", what);
            }
            for (int page = -3; page <= 5; page++) {
                ask("free", page);
            }
            for (int what = 0; what <= 3; what++) {
                ask("reached", what);
            }
            for (int n = 1; n <= 10; n++) {
                ask("then", n, 2);
            }
            ask("then", 99, 1);
            ask("ends");
            ask("least", 1);
            for (int t = 0; t < 16; t++) {
                for (int what = 0; what <= 7 && !ask("thing", t, what).equals("-1"); what++) {
                    ask("linked", t, what);
                }
            }
        }

        private void lookAtShelves() {
            makeNew();
            for (int d = 0; d < 8; d++) {
                ask("cost", d);
                ask("toss", d);
                boolean there = true;
                for (int i = 0; there; i++) {
                    there = !ask("element", d, i).startsWith("throws");
                }
            }
            // What a row keeps of a number tells its kind.
            makeNew();
            for (int d = 0; d < 8; d++) {
                ask("copy", d, 0, (d + 1) % 8, 0, 0);
                ask("put", d, 0, 40000);
                ask("element", d, 0);
            }
        }

        private void lookAtNumbers() {
            makeNew();
            for (int t = 0; t < 16; t++) {
                for (int i = 0; i < 4; i++) {
                    ask("set", t, i, 0);
                }
            }
        }

        /** The list and who ran ahead are seen by the ticks that come. */
        private void lookAtTicks() {
            makeNew();
            for (int i = 0; i < CALLS_OF_TICKS / 6; i++) {
                ask("ticks", 1);
                for (int what = 3; what <= 5; what++) {
                    ask("count", what);
                }
                ask("count", 0);
                ask("reached", 3);
            }
        }
    }
}
