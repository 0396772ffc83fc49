import java.io.IOException;
import java.lang.management.ManagementFactory;
import java.lang.reflect.Constructor;
import java.lang.reflect.Field;
import java.lang.reflect.Method;
import java.lang.reflect.Modifier;
import java.nio.charset.StandardCharsets;
import java.nio.file.Files;
import java.nio.file.Path;
import java.util.Set;
import java.util.TreeSet;
import java.util.regex.Matcher;
import java.util.regex.Pattern;

/** The public face is the document's, the source keeps to the language's rules, and calls make nothing new. */
public final class FaceTest {
    private static final String[] FACE = {
        "int type(long,int)", "int clear()", "int given()", "int proof()", "int wrong(int)", "int line(int,int)",
        "long holds(int)", "int broken(int)", "int end()", "int both(int,int,int)", "int forced(int,int,int,int)",
        "long trues()", "int told(int)", "int tight(int)", "int needed(int,int)", "int covers(int,int)",
        "int cost(int,int)", "int least(int)", "int fit(int,int)", "int count(int)",
    };
    private static final String[] RULED_OUT = {
        "throw", "try", "catch", "synchronized", "assert", "import", "package", "protected", "->", "::",
        "Exact", "hashCode", "toString", "System.out", "Random", "Thread",
    };
    private static final String SOURCE = "src/main/java/TruthSums.java";
    private static final Pattern LIBRARY = Pattern.compile("\\b(?:Math|Integer|Long)\\.\\w+");
    private static final Set<String> ALLOWED =
            Set.of("Math.abs", "Math.max", "Math.min", "Integer.bitCount", "Long.bitCount");
    private static final int MOST_CLASSES = 12;
    private static final int MOST_FIELDS = 20;
    private static final long ROOM_OF_CALLS = 100_000;

    private static int failures = 0;

    public static void main(String[] args) throws IOException {
        face();
        source();
        room();
        System.out.println(failures == 0 ? "the face and the rules are kept" : failures + " faults");
        if (failures != 0) {
            System.exit(1);
        }
    }

    private static void must(boolean isSo, String what) {
        if (!isSo) {
            failures++;
            System.out.println("not so: " + what);
        }
    }

    private static void face() {
        Class<?> c = TruthSums.class;
        must(Modifier.isPublic(c.getModifiers()) && Modifier.isFinal(c.getModifiers()), "public final class");
        Set<String> want = new TreeSet<>(Set.of(FACE));
        Set<String> names = new TreeSet<>();
        Set<String> got = new TreeSet<>();
        for (Method m : c.getDeclaredMethods()) {
            if (Modifier.isPrivate(m.getModifiers())) {
                continue;
            }
            StringBuilder s = new StringBuilder(m.getReturnType() + " " + m.getName() + "(");
            for (Class<?> p : m.getParameterTypes()) {
                s.append(s.charAt(s.length() - 1) == '(' ? "" : ",").append(p);
            }
            got.add(s.append(")").toString());
            names.add(m.getName());
            must(m.getModifiers() == Modifier.PUBLIC, m + " is public alone");
        }
        must(got.equals(want), "the methods are " + want + ", not " + got);
        Constructor<?>[] made = c.getDeclaredConstructors();
        must(made.length == 1 && Modifier.isPublic(made[0].getModifiers()) && made[0].getParameterCount() == 0,
                "one public constructor");
        privateNames(c, names);
        must(c.getDeclaredClasses().length < MOST_CLASSES, "twelve classes at most");
        fewFields(c);
        for (Class<?> inside : c.getDeclaredClasses()) {
            must(Modifier.isStatic(inside.getModifiers()), inside + " is static");
            privateNames(inside, names);
            fewFields(inside);
        }
        constants(c);
    }

    private static void privateNames(Class<?> c, Set<String> names) {
        for (Method m : c.getDeclaredMethods()) {
            must(Modifier.isPublic(m.getModifiers()) || !names.contains(m.getName()), m + " has a name of its own");
            must(m.getParameterCount() <= 7, m + " takes seven parameters at most");
        }
    }

    private static void fewFields(Class<?> c) {
        int fields = 0;
        for (Field f : c.getDeclaredFields()) {
            boolean isConstant = Modifier.isStatic(f.getModifiers()) && Modifier.isFinal(f.getModifiers());
            must(isConstant || !Modifier.isStatic(f.getModifiers()), f + " is no static state");
            fields += isConstant ? 0 : 1;
        }
        must(fields <= MOST_FIELDS, c + " has twenty fields at most, not " + fields);
    }

    private static void constants(Class<?> c) {
        Set<String> open = new TreeSet<>();
        for (Field f : c.getDeclaredFields()) {
            if (!Modifier.isPrivate(f.getModifiers())) {
                open.add(f.getType() + " " + f.getName());
            }
            must(!Modifier.isStatic(f.getModifiers()) || Modifier.isFinal(f.getModifiers()), f + " is final");
        }
        must(open.equals(Set.of("int BAD", "int FULL", "int NONE", "int NO")), "the constants are not " + open);
        must(TruthSums.BAD == -1 && TruthSums.FULL == -3 && TruthSums.NONE == -9 && TruthSums.NO == -1000000,
                "the constants' values");
    }

    private static void source() throws IOException {
        byte[] bytes = Files.readAllBytes(Path.of(SOURCE));
        for (byte b : bytes) {
            must(b > 0, "signs 1 to 127 alone");
        }
        String text = new String(bytes, StandardCharsets.ISO_8859_1);
        String code = text.replaceAll("(?s)/\\*.*?\\*/", "").replaceAll("//[^\n]*", "").replaceAll("\"[^\"]*\"", "\"\"");
        for (String word : RULED_OUT) {
            String edge = Character.isLetter(word.charAt(0)) && !word.equals("Exact") ? "\\b" : "";
            must(!Pattern.compile(edge + Pattern.quote(word) + edge).matcher(code).find(), "no " + word);
        }
        Matcher name = Pattern.compile("\\b[A-Z][A-Za-z]*\\.").matcher(code);
        Set<String> known = Set.of("Math.", "Integer.", "Long.", "Step.", "Tokens.");
        while (name.find()) {
            must(known.contains(name.group()), "no library but what is known: " + name.group());
        }
        Matcher function = LIBRARY.matcher(code);
        while (function.find()) {
            must(ALLOWED.contains(function.group()), "no function that was not looked up in the rules: " + function.group());
        }
    }

    private static long allocated() {
        com.sun.management.ThreadMXBean bean = (com.sun.management.ThreadMXBean) ManagementFactory.getThreadMXBean();
        return bean.getThreadAllocatedBytes(Thread.currentThread().getId());
    }

    /** What calls make is never given back, so they work in the rows that the constructor made. */
    private static void room() {
        allCalls(new TruthSums());
        TruthSums[] made = new TruthSums[50];
        for (int k = 0; k < made.length; k++) {
            made[k] = new TruthSums();
        }
        long before = allocated();
        for (TruthSums x : made) {
            allCalls(x);
            allCalls(x);
        }
        long calls = allocated() - before;
        must(calls < ROOM_OF_CALLS, "calls make next to nothing, not " + calls + " bytes");
        before = allocated();
        new TruthSums().clear();
        long one = allocated() - before;
        must(one < ROOM_OF_CALLS, "an object is small, not of " + one + " bytes");
    }

    private static void allCalls(TruthSums x) {
        typeText(x, "a+b>=1;!a+b>=1;");
        x.given();
        typeText(x, "add 0 1;times 0 9;cut 2 2;trim 0;drop 0 a;so a;not b;claim b>=1;");
        x.proof();
        x.wrong(0);
        x.line(0, 0);
        x.holds(0);
        x.broken(0);
        x.end();
        x.both(0, 1, 0);
        x.forced(2, 0, 0, 0);
        x.trues();
        x.told(0);
        x.tight(0);
        x.needed(0, 0);
        x.covers(0, 0);
        x.cost(0, 1);
        x.least(0);
        x.fit(150, 0);
        x.count(3);
        typeText(x, "@");
        x.given();
        x.proof();
        x.clear();
    }

    private static void typeText(TruthSums x, String text) {
        for (int i = 0; i < text.length(); i++) {
            x.type(text.charAt(i), 1);
        }
    }
}
