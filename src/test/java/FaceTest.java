import java.lang.management.ManagementFactory;
import java.lang.reflect.Field;
import java.lang.reflect.Method;
import java.lang.reflect.Modifier;
import java.nio.charset.StandardCharsets;
import java.nio.file.Files;
import java.nio.file.Path;
import java.util.Arrays;
import java.util.List;
import java.util.TreeSet;
import java.util.regex.Matcher;
import java.util.regex.Pattern;

/** The public face, and the rules of LANGUAGE.md that a reading of class and source can tell. */
public final class FaceTest {
    private static final Path SOURCE = Path.of("src/main/java/AddedLetters.java");
    private static int wrong = 0;

    private static final String[] FACE = {
        "letter 2", "drop 1", "has 3", "want 2", "air 1", "most 1", "anew 0", "entry 2", "having 1", "reads 2",
        "sum 2", "best 0", "send 1", "serve 1", "key 1", "wipe 0", "word 0", "open 2", "rank 2", "row 4", "read 4",
        "mix 4", "draw 3", "fresh 3", "forAll 2", "sweep 0", "opened 1", "text 2", "rows 3", "many 1"};

    private static void require(boolean holds, String what) {
        if (!holds) {
            wrong++;
            System.out.println("not so: " + what);
        }
    }

    public static void main(String[] args) throws Exception {
        face();
        inside();
        constants();
        source();
        room();
        System.out.println(wrong + " things are not so");
        if (wrong != 0) {
            System.exit(1);
        }
    }

    private static void face() throws Exception {
        Class<?> c = AddedLetters.class;
        require(Modifier.isPublic(c.getModifiers()) && Modifier.isFinal(c.getModifiers()), "public and final");
        require(c.getDeclaredConstructors().length == 1 && c.getConstructor() != null, "one public constructor");
        TreeSet<String> found = new TreeSet<>();
        for (Method m : c.getDeclaredMethods()) {
            if (Modifier.isPrivate(m.getModifiers())) {
                continue;
            }
            boolean ints = m.getReturnType() == int.class && !Modifier.isStatic(m.getModifiers());
            for (Class<?> type : m.getParameterTypes()) {
                ints = ints && type == int.class;
            }
            require(ints && Modifier.isPublic(m.getModifiers()), m + " is public and over int");
            found.add(m.getName() + " " + m.getParameterCount());
        }
        require(found.equals(new TreeSet<>(Arrays.asList(FACE))), "the methods are those of the document: " + found);
    }

    private static void inside() {
        List<String> names = Arrays.stream(FACE).map(line -> line.split(" ")[0]).toList();
        Class<?>[] classes = AddedLetters.class.getDeclaredClasses();
        require(classes.length <= 12, "twelve classes at most");
        for (Class<?> c : classes) {
            require(Modifier.isStatic(c.getModifiers()) && !Modifier.isPublic(c.getModifiers()), c + " is static");
            require(c.getDeclaredFields().length <= 20, c + " has twenty fields at most");
            for (Method m : c.getDeclaredMethods()) {
                require(!names.contains(m.getName()), m + " bears no name of the face");
                require(m.getParameterCount() <= 7, m + " takes seven parameters at most");
            }
            for (Field f : c.getDeclaredFields()) {
                require(!Modifier.isStatic(f.getModifiers()) || Modifier.isFinal(f.getModifiers()), f + " is final");
            }
        }
        for (Method m : AddedLetters.class.getDeclaredMethods()) {
            require(!Modifier.isPrivate(m.getModifiers()) || !names.contains(m.getName()), m + " has a name of its own");
        }
    }

    private static void constants() throws Exception {
        String[] names = {"UNKNOWN", "OUTSIDE", "STATE", "FULL", "NONE"};
        int[] values = {-1, -2, -3, -4, -9};
        for (int k = 0; k < names.length; k++) {
            Field f = AddedLetters.class.getField(names[k]);
            require(f.getType() == int.class && f.getInt(null) == values[k], names[k] + " is " + values[k]);
        }
        require(AddedLetters.class.getFields().length == names.length, "no other public field");
        for (Field f : AddedLetters.class.getDeclaredFields()) {
            int m = f.getModifiers();
            require(Modifier.isPublic(m) || Modifier.isPrivate(m), f + " is public or private");
            require(!Modifier.isStatic(m) || Modifier.isFinal(m), f + " is final");
        }
    }

    private static void source() throws Exception {
        String text = Files.readString(SOURCE, StandardCharsets.US_ASCII);
        String code = text.replaceAll("(?s)/\\*.*?\\*/", " ").replaceAll("//[^\n]*", " ");
        require(!code.contains("import ") && !code.contains("package "), "no import, no package");
        String[] never = {"throw", "throws", "try", "catch", "finally", "synchronized", "assert", "Exact", "hashCode",
            "toString", "System", "Object", "Random", "Thread"};
        for (String name : never) {
            require(!Pattern.compile("\\b" + name + "\\b").matcher(code).find(), "no " + name);
        }
        require(!code.contains("->") && !code.contains("::"), "no lambda, no method reference");
        require(!code.contains("\" +") && !code.contains("+ \""), "no texts joined by +");
        methodsAreShort(code);
    }

    private static void methodsAreShort(String code) {
        Matcher heads = Pattern.compile("(?m)^( +)(?:public|private)[^;=\n]*\\) \\{$").matcher(code);
        while (heads.find()) {
            int end = code.indexOf("\n" + heads.group(1) + "}", heads.end());
            long lines = code.substring(heads.start(), Math.max(end, heads.end())).lines().count();
            require(end > 0 && lines <= 60, heads.group().trim() + " is short");
        }
    }

    /** What some 400 calls make, in bytes: all calls of a run live in one room, so none makes objects of its own. */
    private static void room() {
        var threads = (com.sun.management.ThreadMXBean) ManagementFactory.getThreadMXBean();
        // a first round on another object, so that what the machine loads is loaded
        long sum = callAll(new AddedLetters());
        AddedLetters x = new AddedLetters();
        long before = threads.getCurrentThreadAllocatedBytes();
        sum += callAll(x);
        long made = threads.getCurrentThreadAllocatedBytes() - before;
        require(made < 2000 && sum != 0, "calls make no objects, but made " + made + " bytes");
    }

    private static long callAll(AddedLetters x) {
        long sum = 0;
        for (int k = 0; k < 12; k++) {
            sum += x.letter(k % 10, k) + x.has(k % 8, k % 10, 1) + x.want(k % 10, (k + 3) % 8) + x.best();
            sum += x.sum(1, 2) + x.text(1, 2) + x.send(1) + x.serve(2) + x.reads(1, 1) + x.having(1) + x.entry(0, 0);
            sum += x.key('t') + x.key('w') + x.key('o') + x.word() + x.open(5, k) + x.mix(0, 0, 1, k);
            sum += x.draw(0, 0, 2) + x.fresh(0, 0, 1) + x.forAll(0, 0) + x.rows(0, 1, 3) + x.row(0, 0, 0, 0);
            sum += x.read(0, 0, 0, 0) + x.rank(0, 0) + x.opened(0) + x.sweep() + x.many(1) + x.drop(3) + x.wipe();
            sum += x.air(255) + x.most(4);
        }
        return sum + x.anew();
    }
}
