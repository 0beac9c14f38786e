import java.io.IOException;
import java.lang.reflect.Constructor;
import java.lang.reflect.Field;
import java.lang.reflect.InvocationTargetException;
import java.lang.reflect.Method;
import java.lang.reflect.Modifier;
import java.nio.file.Files;
import java.nio.file.Path;
import java.util.ArrayList;
import java.util.HashSet;
import java.util.List;
import java.util.Random;
import java.util.Set;
import java.util.TreeSet;
import java.util.regex.Matcher;
import java.util.regex.Pattern;

/** The face of the document, LANGUAGE.md's rules as far as a look can tell them, and that no call ever throws. */
public final class RulesTest {
    private static int wrong = 0;

    static final String FACE = """
        public int feed(int a, int b, int c, int d, int e);
        public int end(int n);
        public int text(int sort, int at);
        public int fault(int what);
        public int fell(int fell, int what);
        public int whistle(int drive, int k, int what);
        public int till(int fell, int drive);
        public int state(int fell, int drive, int n, int what);
        public int shy(int fell, int beast);
        public int driven(int fell, int beast, int what);
        public long heard(int fell, int beast, int h, boolean under);
        public int safe(int fell, boolean least);
        public int nearest(int fell, int cell, boolean steps);
        public int book(int book, int what);
        public int notary(int book, int k);
        public int parted(int book, int n, int k);
        public int fact(int log, int k, int what);
        public int fits(int log, int what);
        public int ask(int log, int cell);
        public int holding(int a, int b, int k);
        public long fog(int w, int p, int n, int what);
        public int drawn(int fell, int seed, int n, int what);
        public int middle(int fell, boolean steps);
        public int post(int fell, int beast, int direction, boolean many);
        public int cornered(int fell);
        public int lined(int fell, int k);
        public int greedy(int fell, int n, int what);
        public int caught(int fell, int drive, int beast);
        public int spread(int fell, int drive, int n);
        public int thrice(int fell, int drive);
        public int stir(int fell, boolean many);
        public int dear(int book, int dog);
        public int idle(int book);
        public int run(int book, int m, boolean worth);
        public int would(int log, int cell, int dog, int k);
        public int reply(int worth, int y);
        public int count(int sort);
        public boolean image(int k);
        public boolean again(int k);
        """;

    private static void fail(String s) {
        wrong++;
        System.out.println(s);
    }

    public static void main(String[] args) throws IOException {
        String source = Files.readString(Path.of(args.length > 0 ? args[0] : "src/main/java/DogNotary.java"));
        face();
        members(DogNotary.class);
        words(plain(source));
        methods(plain(source));
        neverThrows();
        System.out.println(wrong == 0 ? "RulesTest: all rules are kept" : "RulesTest: " + wrong + " wrong");
        if (wrong != 0) {
            System.exit(1);
        }
    }

    private static void face() {
        Set<String> wanted = new TreeSet<>();
        for (String line : FACE.strip().split("\n")) {
            wanted.add(line.strip().replaceAll("(int|boolean) \\w+([,)])", "$1$2").replace(";", ""));
        }
        Set<String> had = new TreeSet<>();
        for (Method m : DogNotary.class.getDeclaredMethods()) {
            if (Modifier.isPrivate(m.getModifiers())) {
                continue;
            }
            StringBuilder s = new StringBuilder(Modifier.toString(m.getModifiers()) + " " + m.getReturnType() + " " + m.getName() + "(");
            for (Class<?> c : m.getParameterTypes()) {
                s.append(s.charAt(s.length() - 1) == '(' ? "" : ", ").append(c);
            }
            had.add(s + ")");
        }
        if (!wanted.equals(had)) {
            fail("the face is " + had + ", wanted " + wanted);
        }
        Constructor<?>[] all = DogNotary.class.getDeclaredConstructors();
        if (all.length != 1 || all[0].getParameterCount() != 0 || !Modifier.isPublic(all[0].getModifiers())) {
            fail("the constructor is not as wanted");
        }
        int modifiers = DogNotary.class.getModifiers();
        if (!Modifier.isPublic(modifiers) || !Modifier.isFinal(modifiers)) {
            fail("the class is not public and final");
        }
    }

    private static void members(Class<?> c) {
        Set<String> face = new HashSet<>();
        for (Method m : DogNotary.class.getDeclaredMethods()) {
            if (Modifier.isPublic(m.getModifiers())) {
                face.add(m.getName());
            }
        }
        int fields = 0;
        for (Field f : c.getDeclaredFields()) {
            boolean isStatic = Modifier.isStatic(f.getModifiers());
            fields += isStatic ? 0 : 1;
            if (isStatic && !Modifier.isFinal(f.getModifiers())) {
                fail("static and not final: " + f);
            }
            if (c == DogNotary.class && !Modifier.isPrivate(f.getModifiers()) && !f.getName().equals("NONE")) {
                fail("a field that others see: " + f);
            }
        }
        if (fields > 20) {
            fail(c + " has " + fields + " fields");
        }
        for (Method m : c.getDeclaredMethods()) {
            boolean ofFace = c == DogNotary.class && Modifier.isPublic(m.getModifiers());
            if (!ofFace && face.contains(m.getName())) {
                fail("bears the name of a public one: " + m);
            }
            if (m.getParameterCount() > 7) {
                fail("more than seven parameters: " + m);
            }
        }
        int classes = 1;
        for (Class<?> inner : c.getDeclaredClasses()) {
            classes++;
            if (!Modifier.isStatic(inner.getModifiers())) {
                fail("not static: " + inner);
            }
            members(inner);
        }
        if (classes > 12) {
            fail(classes + " classes");
        }
    }

    /** The source without comments, texts and signs. */
    private static String plain(String source) {
        return source.replaceAll("(?s)/\\*.*?\\*/", "").replaceAll("//[^\n]*", "")
            .replaceAll("\"(\\\\.|[^\"\\\\])*\"", "TEXT").replaceAll("'(\\\\.|[^'\\\\])'", "SIGN");
    }

    private static void words(String s) {
        for (String word : List.of("throw", "throws", "try", "catch", "synchronized", "assert", "package", "double", "float", "->", "::",
            "hashCode", "toString", "equals", "ordinal", "Exact", "Random", "Thread", "Object", "var", "native", "volatile",
            "protected", "while (true)", "for (;;)", "System.out", "System.nano", "System.current", "instanceof")) {
            String edge = Character.isLetter(word.charAt(0)) ? "\\b" : "";
            if (Pattern.compile(edge + Pattern.quote(word)).matcher(s).find()
                && Pattern.compile(edge + Pattern.quote(word) + edge).matcher(s).find()) {
                fail("the source has '" + word + "'");
            }
        }
        Matcher m = Pattern.compile("import ([\\w.*]+);").matcher(s);
        while (m.find()) {
            if (!List.of("java.util.Arrays", "java.util.ArrayList", "java.util.List").contains(m.group(1))) {
                fail("imports " + m.group(1));
            }
        }
        Matcher library = Pattern.compile("\\b(Math|Integer|Long|Arrays|System)\\.(\\w+)").matcher(s);
        Set<String> fine = Set.of("Math.abs", "Math.max", "Math.min", "Integer.bitCount", "Long.bitCount", "Arrays.fill", "System.arraycopy");
        while (library.find()) {
            if (!fine.contains(library.group())) {
                fail("uses " + library.group());
            }
        }
    }

    /** Methods are short: a method's braces close within sixty lines or so. */
    private static void methods(String s) {
        List<String> lines = new ArrayList<>(List.of(s.split("\n")));
        Pattern head = Pattern.compile("^(    |        )(?! |if|for|while|switch)[\\w\\[\\] ]+\\([^;=]*\\) \\{$");
        int methods = 0;
        for (int i = 0; i < lines.size(); i++) {
            Matcher m = head.matcher(lines.get(i));
            if (!m.find()) {
                continue;
            }
            methods++;
            int end = i;
            while (end < lines.size() && !lines.get(end).equals(m.group(1) + "}")) {
                end++;
            }
            if (end - i > 60) {
                fail("a long method: " + lines.get(i).strip());
            }
        }
        if (methods < 100) {
            fail("only " + methods + " methods were looked at");
        }
    }

    /** Every method with the edges of int and what lies beside the limits, in states with nothing, with little, with much. */
    private static void neverThrows() {
        int[] edges = {Integer.MIN_VALUE, Integer.MIN_VALUE + 1, -1000, -3, -2, -1, 0, 1, 2, 3, 4, 5, 6, 7, 8, 9, 10, 11, 15, 16, 20, 21, 25,
            26, 35, 36, 40, 41, 45, 46, 59, 60, 61, 63, 64, 65, 99, 100, 163, 164, 600, 601, Integer.MAX_VALUE - 1, Integer.MAX_VALUE};
        Random random = new Random(7);
        long calls = 0;
        for (int round = 0; round < 400; round++) {
            DogNotary x = new DogNotary();
            for (int t = 0; t < round % 9; t++) {
                int sort = t % 4;
                PromisesTest.say(x, sort, AgainstPlainTest.Texts.draw(random, sort));
            }
            for (Method m : DogNotary.class.getDeclaredMethods()) {
                if (!Modifier.isPublic(m.getModifiers())) {
                    continue;
                }
                for (int i = 0; i < 8; i++) {
                    calls++;
                    callOnce(x, m, edges, random);
                }
            }
        }
        if (calls < 100000) {
            fail("only " + calls + " calls");
        }
    }

    private static void callOnce(DogNotary x, Method m, int[] edges, Random random) {
        Object[] values = new Object[m.getParameterCount()];
        for (int p = 0; p < values.length; p++) {
            boolean flag = m.getParameterTypes()[p] == boolean.class;
            int low = random.nextInt(3);
            values[p] = flag ? (Object) random.nextBoolean() : (Object) (low == 0 ? edges[random.nextInt(edges.length)] : random.nextInt(4));
        }
        try {
            m.invoke(x, values);
        } catch (InvocationTargetException e) {
            fail(m + " of " + List.of(values) + " threw " + e.getCause());
        } catch (IllegalAccessException e) {
            fail("can't be called: " + m);
        }
    }
}
