import java.lang.reflect.InvocationTargetException;
import java.lang.reflect.Method;
import java.util.Arrays;
import java.util.Comparator;
import java.util.List;

/** Runs the tests of a class by their names, and holds answers to what is due. */
final class Boundaries {
    static final int NONE = -1;
    static final int NO_SUCH = -2;
    static final int LEAST = Integer.MIN_VALUE;
    static final int GREATEST = Integer.MAX_VALUE;
    static final int FELL = 0;
    static final int DRIVE = 1;
    static final int BOOK = 2;
    static final int LOG = 3;

    private static String test = "";
    private static int wrong = 0;
    private static int right = 0;

    private Boundaries() {
    }

    /** Runs each test of a class whose name begins with one of the marks; of each mark there must be one. */
    static void runAll(Class<?> tests, List<String> marks) {
        Method[] all = tests.getDeclaredMethods();
        Arrays.sort(all, Comparator.comparing(Method::getName));
        int ran = 0;
        for (String mark : marks) {
            int before = ran;
            for (Method m : all) {
                if (m.getName().startsWith(mark + "_")) {
                    runOne(m);
                    ran++;
                }
            }
            if (ran == before) {
                fail("there is no test of " + mark);
            }
        }
        System.out.println(tests.getName() + ": " + ran + " tests, " + right + " answers as due, " + wrong + " wrong");
        if (wrong != 0) {
            System.exit(1);
        }
    }

    private static void runOne(Method m) {
        test = m.getName();
        int before = right + wrong;
        try {
            m.invoke(null);
        } catch (InvocationTargetException e) {
            fail("threw " + e.getCause());
        } catch (IllegalAccessException e) {
            fail("can't be run");
        }
        if (right + wrong == before) {
            fail("holds nothing to anything");
        }
    }

    private static void fail(String s) {
        wrong++;
        System.out.println(test + ": " + s);
    }

    static void due(String call, long got, long want) {
        if (got == want) {
            right++;
        } else {
            fail(call + " answered " + got + ", due is " + want);
        }
    }

    static void due(String call, boolean got, boolean want) {
        if (got == want) {
            right++;
        } else {
            fail(call + " answered " + got + ", due is " + want);
        }
    }

    /** A new object with texts of one sort, all of them sound. */
    static DogNotary with(int sort, String... texts) {
        DogNotary x = new DogNotary();
        for (String s : texts) {
            tell(x, sort, s);
        }
        return x;
    }

    static DogNotary withDrive(String fell, String drive) {
        DogNotary x = with(FELL, fell);
        tell(x, DRIVE, drive);
        return x;
    }

    static void tell(DogNotary x, int sort, String s) {
        int number = x.count(sort);
        due("'" + s + "', which is sound", PromisesTest.say(x, sort, s), number);
    }

    static int tellInPlace(DogNotary x, int sort, int at, String s) {
        PromisesTest.feedAll(x, s);
        return x.text(sort, at);
    }

    static void sound(int sort, String s) {
        faultOf(sort, s, 0, NONE);
    }

    static void faultOf(int sort, String s, int fault, int place) {
        DogNotary x = new DogNotary();
        due("text of '" + s + "'", PromisesTest.say(x, sort, s), fault == 0 ? 0 : NONE);
        due("fault(0) of '" + s + "'", x.fault(0), fault);
        due("fault(1) of '" + s + "'", x.fault(1), place);
        due("count behind '" + s + "'", x.count(sort), fault == 0 ? 1 : 0);
    }
}
