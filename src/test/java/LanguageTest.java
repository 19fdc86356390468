import java.io.DataInputStream;
import java.io.IOException;
import java.lang.management.ManagementFactory;
import java.lang.reflect.Field;
import java.lang.reflect.Method;
import java.lang.reflect.Modifier;
import java.nio.file.Files;
import java.nio.file.Path;
import java.util.ArrayList;
import java.util.Arrays;
import java.util.List;
import java.util.Set;
import java.util.TreeSet;
import java.util.regex.Matcher;
import java.util.regex.Pattern;
import java.util.stream.Collectors;

/** The document's face, and those rules of LANGUAGE.md that can be seen from the class and its text. */
public final class LanguageTest {
    private static final Path SOURCE = Path.of("src/main/java/PromisedShare.java");
    private static final List<String> FACE = List.of(
        "int program(int)", "int thing(int,int)", "int make(int,int)", "int comes(int)", "int root(int,int)",
        "int link(int,int,int)", "int linked(int,int)", "long set(int,int,int)", "int begins()", "int share(int)",
        "int ticks(int)", "int reached(int)", "int kept(int)", "int cut(int)", "int snip(int)", "int then(int,int)",
        "int ends()", "int gains()", "int least(int)", "int fits(int,int)", "int sorted(int)", "int free(int)",
        "int runsOut(int)", "int best(int)", "long number(int,int)", "int same(int,int)", "long horner(int,int)",
        "int whatShare(int)", "long lost(int,int,int)", "long used(int)", "int forged(int)", "int judge(int)",
        "int lots(int,int,int)", "int image()", "int restore()", "int count(int)", "int keep(int,int,int,int)",
        "int row(int,int,int)", "int put(int,int,int)", "long element(int,int)", "int copy(int,int,int,int,int)",
        "int cost(int)", "int toss(int)");
    private static final String[] FORBIDDEN = {
        "->", "::", "\\bfinally\\b", "\\bsynchronized\\b", "\\bassert\\b", "Exact\\b", "\\bthreads?\\b", "\\bRandom\\b",
        "currentTimeMillis", "nanoTime", "getMessage", "\\bhashCode\\b", "\\.equals\\(", "\\btoString\\b", "@",
        "catch \\((?!IllegalStateException )", "\\bstatic \\{", "\\bpackage\\b", "\\bprotected\\b", "\\bMAX_VALUE\\b",
        "\\bMIN_VALUE\\b"};

    /** What of the library the class uses; rule 4 allows more, and what is new is looked up there first. */
    private static final Set<String> LIBRARY = Set.of(
        "java/lang/Object.<init>", "java/lang/Integer.bitCount", "java/lang/Math.max", "java/lang/Math.min",
        "java/lang/String.length", "java/lang/String.charAt", "java/lang/System.arraycopy", "java/util/Arrays.fill",
        "java/lang/IllegalStateException.<init>", "java/lang/IllegalArgumentException.<init>");

    private static int wrong = 0;

    public static void main(String[] args) throws IOException {
        checkFace();
        for (Class<?> each : allClasses()) {
            checkClass(each);
            checkLibrary(each);
        }
        checkText(Files.readString(SOURCE));
        checkRoom();
        System.out.println(wrong == 0 ? "the class keeps to its face and its language" : wrong + " rules are broken");
        if (wrong != 0) {
            System.exit(1);
        }
    }

    private static void hold(boolean so, String rule) {
        if (!so) {
            wrong++;
            System.out.println("broken: " + rule);
        }
    }

    private static List<Class<?>> allClasses() {
        List<Class<?>> all = new ArrayList<>(List.of(PromisedShare.class));
        all.addAll(Arrays.asList(PromisedShare.class.getDeclaredClasses()));
        return all;
    }

    private static String signature(Method m) {
        String parameters = Arrays.stream(m.getParameterTypes()).map(Class::getName).collect(Collectors.joining(","));
        return m.getReturnType().getName() + " " + m.getName() + "(" + parameters + ")";
    }

    private static void checkFace() {
        int modifiers = PromisedShare.class.getModifiers();
        hold(Modifier.isPublic(modifiers) && Modifier.isFinal(modifiers), "the class is public and final");
        hold(PromisedShare.class.getDeclaredConstructors().length == 1, "one constructor");
        hold(PromisedShare.class.getConstructors().length == 1, "the constructor is public");
        Set<String> open = new TreeSet<>();
        Set<String> names = new TreeSet<>();
        for (Method m : PromisedShare.class.getDeclaredMethods()) {
            if (!Modifier.isPrivate(m.getModifiers()) && !m.isSynthetic()) {
                open.add(signature(m));
                names.add(m.getName());
                hold(Modifier.isPublic(m.getModifiers()), "only public or private: " + m);
            }
        }
        hold(open.equals(new TreeSet<>(FACE)), "the face is the document's: " + open);
        for (Class<?> each : allClasses()) {
            for (Method m : each.getDeclaredMethods()) {
                boolean ofFace = each == PromisedShare.class && Modifier.isPublic(m.getModifiers());
                hold(ofFace || !names.contains(m.getName()), "no other method bears a public one's name: " + m);
            }
        }
    }

    private static void checkClass(Class<?> each) {
        int fields = 0;
        for (Field f : each.getDeclaredFields()) {
            boolean isStatic = Modifier.isStatic(f.getModifiers());
            hold(!isStatic || Modifier.isFinal(f.getModifiers()), "static fields are final: " + f);
            hold(each != PromisedShare.class || Modifier.isPrivate(f.getModifiers()), "fields are private: " + f);
            fields += isStatic ? 0 : 1;
        }
        hold(fields <= 20, "at most some twenty fields: " + each);
        for (Method m : each.getDeclaredMethods()) {
            hold(m.getParameterCount() <= 7, "at most seven parameters: " + m);
        }
        if (each != PromisedShare.class) {
            hold(Modifier.isStatic(each.getModifiers()), "classes inside are static: " + each);
        }
        hold(allClasses().size() <= 12, "at most some twelve classes");
    }

    /** Every method that the compiled class calls: its own ones, or one of the library that is allowed. */
    private static void checkLibrary(Class<?> each) throws IOException {
        try (DataInputStream in = new DataInputStream(each.getResourceAsStream(each.getName() + ".class"))) {
            in.skipNBytes(8);
            Object[] pool = new Object[in.readUnsignedShort()];
            for (int i = 1; i < pool.length; i++) {
                pool[i] = readConstant(in);
                // A long or a double takes two places.
                i += pool[i] instanceof Long ? 1 : 0;
            }
            for (Object constant : pool) {
                if (constant instanceof int[] call && call.length == 2) {
                    String owner = (String) pool[((int[]) pool[call[0]])[0]];
                    String name = (String) pool[((short[]) pool[call[1]])[0]];
                    hold(owner.startsWith("PromisedShare") || LIBRARY.contains(owner + "." + name),
                        "not yet looked up in rule 4: " + owner + "." + name);
                }
            }
        }
    }

    /** A text, {class name}, {class, name and type} of a method, short {name, type}; null where it is no matter. */
    private static Object readConstant(DataInputStream in) throws IOException {
        int tag = in.readUnsignedByte();
        switch (tag) {
            case 1: return in.readUTF();
            case 5: case 6: return in.readLong();
            case 7: return new int[] {in.readUnsignedShort()};
            case 10: case 11: return new int[] {in.readUnsignedShort(), in.readUnsignedShort()};
            case 12: return new short[] {in.readShort(), in.readShort()};
            case 8: case 16: case 19: case 20: in.skipNBytes(2); return null;
            case 15: in.skipNBytes(3); return null;
            default: in.skipNBytes(4); return null;
        }
    }

    private static void checkText(String text) {
        String code = text.replaceAll("(?s)/\\*.*?\\*/", "").replaceAll("//[^\n]*", "");
        for (String words : FORBIDDEN) {
            Matcher m = Pattern.compile(words).matcher(code);
            hold(!m.find(), "not in the code: " + words);
        }
        Matcher imports = Pattern.compile("import ([^;]*);").matcher(code);
        while (imports.find()) {
            hold(imports.group(1).equals("java.util.Arrays"), "no other library: " + imports.group(1));
        }
        hold(text.chars().allMatch(c -> c < 128), "plain signs alone");
        int lines = 0;
        for (String line : text.split("\n")) {
            lines = line.matches(" {4}( {4})?[a-z].*\\{") ? 0 : lines + 1;
            hold(!line.matches(" {4}( {4})?\\}") || lines <= 60, "methods stay short, ahead of: " + line);
        }
    }

    /** All calls of a run live in one room: what a call makes stays small, even the dearest one's. */
    private static void checkRoom() {
        com.sun.management.ThreadMXBean counter = (com.sun.management.ThreadMXBean) ManagementFactory.getThreadMXBean();
        long id = Thread.currentThread().getId();
        PromisedShare x = new PromisedShare();
        for (int i = 0; i < 16; i++) {
            x.make(i % 8, 3);
        }
        x.row(0, 0, 100);
        long before = counter.getThreadAllocatedBytes(id);
        for (int i = 0; i < 30; i++) {
            x.program(0);
            x.lots(20, i, 0);
            x.best(-1);
            x.best(3);
            x.whatShare(0);
            x.judge(0);
            x.lost(8, 20, 0);
            x.snip(0);
            x.cut(0);
            x.image();
            x.restore();
            x.fits(12, 0);
            x.least(60);
            x.then(99, 0);
            x.row(1, 2, 100);
            x.keep(2, 1, 0, 5);
            x.toss(2);
        }
        long each = (counter.getThreadAllocatedBytes(id) - before) / (30 * 17);
        hold(each < 2000, "a call makes next to nothing: " + each + " bytes");
    }
}
