import java.lang.reflect.InvocationTargetException;
import java.lang.reflect.Method;
import java.util.Arrays;
import java.util.Comparator;
import java.util.List;

/** Runs the tests of a class by their names, and holds answers to what is due. */
final class Boundaries {
    static final int NONE = -1;
    static final int NO_SUCH = -2;
    static final int LEAST = Integer.MIN_VALUE;
    static final int GREATEST = Integer.MAX_VALUE;
    static final int FELL = 0;
    static final int DRIVE = 1;
    static final int BOOK = 2;
    static final int LOG = 3;

    private static String test = "";
    private static int wrong = 0;
    private static int right = 0;

    private Boundaries() {
    }

    /** Runs each test of a class whose name begins with one of the marks; of each mark there must be one. */
    static void runAll(Class<?> tests, List<String> marks) {
        Method[] all = tests.getDeclaredMethods();
        Arrays.sort(all, Comparator.comparing(Method::getName));
        int ran = 0;
        for (String mark : marks) {
            int before = ran;
            for (Method m : all) {
                if (m.getName().startsWith(mark + "_")) {
                    runOne(m);
                    ran++;
                }
            }
            if (ran == before) {
                fail("there is no test of " + mark);
            }
        }
        System.out.println(tests.getName() + ": " + ran + " tests, " + right + " answers as due, " + wrong + " wrong");
        if (wrong != 0) {
            System.exit(1);
        }
    }

    private static void runOne(Method m) {
        test = m.getName();
        int before = right + wrong;
        try {
            m.invoke(null);
        } catch (InvocationTargetException e) {
            fail("threw " + e.getCause());
        } catch (IllegalAccessException e) {
            fail("can't be run");
        }
        if (right + wrong == before) {
            fail("holds nothing to anything");
        }
    }

    private static void fail(String s) {
        wrong++;
        System.out.println(test + ": " + s);
    }

    static void due(String call, long got, long want) {
        if (got == want) {
            right++;
        } else {
            fail(call + " answered " + got + ", due is " + want);
        }
    }

    static void due(String call, boolean got, boolean want) {
        if (got == want) {
            right++;
        } else {
            fail(call + " answered " + got + ", due is " + want);
        }
    }

    /** A new object with texts of one sort, all of them sound. */
    static DogNotary with(int sort, String... texts) {
        DogNotary x = new DogNotary();
        for (String s : texts) {
            tell(x, sort, s);
        }
        return x;
    }

    static DogNotary withDrive(String fell, String drive) {
        DogNotary x = with(FELL, fell);
        tell(x, DRIVE, drive);
        return x;
    }

    static void tell(DogNotary x, int sort, String s) {
        int number = x.count(sort);
        due("'" + s + "', which is sound", PromisesTest.say(x, sort, s), number);
    }

    static int tellInPlace(DogNotary x, int sort, int at, String s) {
        PromisesTest.feedAll(x, s);
        return x.text(sort, at);
    }

    static void sound(int sort, String s) {
        faultOf(sort, s, 0, NONE);
    }

    static void faultOf(int sort, String s, int fault, int place) {
        DogNotary x = new DogNotary();
        due("text of '" + s + "'", PromisesTest.say(x, sort, s), fault == 0 ? 0 : NONE);
        due("fault(0) of '" + s + "'", x.fault(0), fault);
        due("fault(1) of '" + s + "'", x.fault(1), place);
        due("count behind '" + s + "'", x.count(sort), fault == 0 ? 1 : 0);
    }

    /** A call by one of its numbers, the others being what they are. */
    interface Call {
        long of(DogNotary x, int n);
    }

    /** Numbers that are outside give one answer. */
    static void outside(String call, DogNotary x, Call c, long want, int... numbers) {
        for (int n : numbers) {
            due(call + " by " + n, c.of(x, n), want);
        }
    }

    /** The first and the last number inside and their answers, and those beside them. */
    static void bounds(String call, DogNotary x, Call c, int[] inside, long[] wants, long outside) {
        int least = inside[0];
        int greatest = inside[inside.length - 1];
        for (int i = 0; i < inside.length; i++) {
            due(call + " by " + inside[i], c.of(x, inside[i]), wants[i]);
        }
        outside(call, x, c, outside, LEAST, least - 2, least - 1, greatest + 1, greatest + 2, GREATEST);
    }

    /** A call of one of a sort, while there are none, one, and two of it. */
    static void numbered(String call, DogNotary x, int sort, String[] texts, Call c, long[] wants, long outside) {
        outside(call + ", none being there,", x, c, outside, LEAST, -2, -1, 0, 1, GREATEST);
        tell(x, sort, texts[0]);
        due(call + ", one being there, by 0", c.of(x, 0), wants[0]);
        outside(call + ", one being there,", x, c, outside, LEAST, -2, -1, 1, 2, GREATEST);
        tell(x, sort, texts[1]);
        due(call + ", two being there, by 0", c.of(x, 0), wants[0]);
        due(call + ", two being there, by 1", c.of(x, 1), wants[1]);
        outside(call + ", two being there,", x, c, outside, LEAST, -2, -1, 2, 3, GREATEST);
    }

    /** Numbers about ranges (of each the first and the last): those in one have an answer, all others are outside. */
    static void gaps(String call, DogNotary x, Call c, long outside, int... ranges) {
        outside(call, x, c, outside, LEAST, LEAST + 10, GREATEST - 10, GREATEST);
        for (int n = -30; n < 230; n++) {
            boolean inside = false;
            for (int i = 0; i < ranges.length; i += 2) {
                inside |= n >= ranges[i] && n <= ranges[i + 1];
            }
            due(call + " by " + n + " has an answer", c.of(x, n) != outside, inside);
        }
    }

    /** All that is told but for the tape, as the calls tell it. */
    static String told(DogNotary x) {
        StringBuilder s = new StringBuilder("fault ").append(x.fault(0)).append(" at ").append(x.fault(1));
        for (int f = 0; f < x.count(FELL); f++) {
            s.append("; fell");
            for (int what = 0; what < 6; what++) {
                s.append(' ').append(x.fell(f, what));
            }
            for (int b = 0; b < x.fell(f, 5); b++) {
                s.append(' ').append(x.fell(f, 10 + b)).append(' ').append(x.fell(f, 20 + b));
            }
            for (int c = 0; c < x.fell(f, 0) * x.fell(f, 1); c++) {
                s.append(x.fell(f, 100 + c) == 1 ? '#' : '.');
            }
        }
        for (int d = 0; d < x.count(DRIVE); d++) {
            s.append("; drive");
            for (int k = 0; k < x.whistle(d, NONE, 0); k++) {
                s.append(' ').append(x.whistle(d, k, 0)).append(' ').append(x.whistle(d, k, 1));
            }
        }
        for (int b = 0; b < x.count(BOOK); b++) {
            s.append("; book");
            for (int what = 0; what < 60; what++) {
                s.append(' ').append(x.book(b, what));
            }
        }
        for (int g = 0; g < x.count(LOG); g++) {
            s.append("; log");
            for (int k = 0; k < x.fact(g, NONE, 0); k++) {
                for (int what = 0; what < 4; what++) {
                    s.append(' ').append(x.fact(g, k, what));
                }
            }
        }
        return s.toString();
    }

    static void due(String call, String got, String want) {
        if (got.equals(want)) {
            right++;
        } else {
            fail(call + " is '" + got + "', due is '" + want + "'");
        }
    }
}
