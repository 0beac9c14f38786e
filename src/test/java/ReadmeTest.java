import java.io.IOException;
import java.lang.reflect.Method;
import java.nio.file.Files;
import java.nio.file.Path;
import java.util.ArrayList;
import java.util.List;
import java.util.regex.Matcher;
import java.util.regex.Pattern;

/** README.md names each call of the face, its example answers as it says, and so does each call for what there is not. */
public final class ReadmeTest {
    private static final int OUTSIDE = 1000;
    private static final String FENCE = "```";

    private static int wrong = 0;
    private static int right = 0;

    private static void due(String call, Object got, Object want) {
        if (got.equals(want)) {
            right++;
        } else {
            wrong++;
            System.out.println("README.md: " + call + " is " + got + ", due is " + want);
        }
    }

    public static void main(String[] args) throws IOException, ReflectiveOperationException {
        List<String> lines = Files.readAllLines(Path.of(args.length > 0 ? args[0] : "README.md"));
        example(lines);
        face(lines);
        whenThereIsNone(lines);
        due("there are answers to hold, which", right > 3 * RulesTest.FACE.lines().count(), true);
        System.out.println("ReadmeTest: " + right + " answers as due, " + wrong + " wrong");
        if (wrong != 0) {
            System.exit(1);
        }
    }

    private static Method method(String name) {
        for (Method m : DogNotary.class.getMethods()) {
            if (m.getName().equals(name) && m.getDeclaringClass() == DogNotary.class) {
                return m;
            }
        }
        throw new IllegalStateException("no call " + name);
    }

    /** The calls of the first example, in their order on one object, with the answers behind the slashes. */
    private static void example(List<String> lines) throws ReflectiveOperationException {
        Pattern told = Pattern.compile("^put\\(x, 0, \"(.*)\"\\);$");
        Pattern asked = Pattern.compile("^x\\.(\\w+)\\(([^)]*)\\); +// (-?\\d+)(:.*)?$");
        DogNotary x = new DogNotary();
        int answers = 0;
        boolean inside = false;
        for (String line : lines) {
            inside = line.startsWith(FENCE) ? line.equals(FENCE + "java") : inside;
            Matcher t = told.matcher(line);
            Matcher a = asked.matcher(line);
            if (inside && t.matches()) {
                PromisesTest.feedAll(x, t.group(1));
            } else if (inside && a.matches()) {
                Method m = method(a.group(1));
                String[] parts = a.group(2).split(", *");
                Object[] values = new Object[parts.length];
                for (int p = 0; p < parts.length; p++) {
                    values[p] = parts[p].equals("DogNotary.NONE") ? DogNotary.NONE : Integer.parseInt(parts[p]);
                }
                answers++;
                due(line.strip(), m.invoke(x, values).toString(), a.group(3));
            } else if (inside && line.startsWith("x.")) {
                due("a line that tells its answer, '" + line + "',", false, true);
            }
        }
        due("how many answers the example has", answers > 5, true);
    }

    /** The cells of each row of a table whose first cell is a call. */
    private static List<String[]> rows(List<String> lines) {
        List<String[]> out = new ArrayList<>();
        for (String line : lines) {
            if (line.matches("\\| `\\w+\\(.*\\)` \\|.*\\|")) {
                String[] cells = line.substring(1, line.length() - 1).split("\\|");
                due("how many cells '" + line + "' has", cells.length, 3);
                out.add(cells);
            }
        }
        return out;
    }

    private static void face(List<String> lines) {
        List<String> named = new ArrayList<>();
        for (String[] cells : rows(lines)) {
            named.add(cells[0].strip());
            due("what is told of" + cells[0], cells[1].isBlank(), false);
        }
        List<String> wanted = new ArrayList<>();
        for (String line : RulesTest.FACE.strip().split("\n")) {
            String call = line.strip().replaceAll("^public \\w+ |;$", "").replaceAll("\\b(int|boolean) ", "");
            wanted.add("`" + call + "`");
        }
        for (String call : wanted) {
            due("how often the face has " + call, named.stream().filter(call::equals).count(), 1L);
        }
        due("how many calls the face has", named.size(), wanted.size());
    }

    /** Each call on an object that has nothing but a full tape, by numbers that are outside. */
    private static void whenThereIsNone(List<String> lines) throws ReflectiveOperationException {
        for (String[] cells : rows(lines)) {
            String name = cells[0].strip().replaceAll("^`|\\(.*$", "");
            DogNotary x = new DogNotary();
            PromisesTest.feedAll(x, " ".repeat(600));
            Method m = method(name);
            Object[] values = new Object[m.getParameterCount()];
            for (int p = 0; p < values.length; p++) {
                values[p] = m.getParameterTypes()[p] == boolean.class ? (Object) false : (Object) OUTSIDE;
            }
            String got = m.invoke(x, values).toString();
            boolean said = Pattern.compile("(^|[ ;])" + got + "($|[ ,:;])").matcher(cells[2].strip()).find();
            due("what '" + cells[2].strip() + "' says of " + got + " for " + name, said, true);
        }
    }
}
