import java.util.ArrayList;
import java.util.List;

/**
 * Promises 21 to 40: each number of a call at its last value inside and its first one outside, on both sides; refused calls,
 * and what they leave as it was. A test's name has the promise's number and the case.
 */
public final class LaterPromiseBoundariesTest {
    private static final int NONE = Boundaries.NONE;
    private static final int NO_SUCH = Boundaries.NO_SUCH;
    private static final int LEAST = Boundaries.LEAST;
    private static final int GREATEST = Boundaries.GREATEST;
    private static final int FELL = Boundaries.FELL;
    private static final int DRIVE = Boundaries.DRIVE;
    private static final int BOOK = Boundaries.BOOK;
    private static final int LOG = Boundaries.LOG;
    private static final String[] LANES = PromiseBoundariesTest.LANES;
    private static final String SIX = PromiseBoundariesTest.SIX;
    /** The pen is five goings off, and three. */
    private static final String[] TO_THE_PEN = {lane(8, 0, 1, "ewe 2 0;"), lane(6, 0, 1, "ewe 2 0;")};
    private static final String[] TWO_EWES = {lane(8, 0, 1, "ewe 2 0;ewe 4 0;"), lane(8, 0, 1, "ewe 2 0;ewe 5 0;")};
    private static final String NOTHING_FITS = "went 7 0 6 0 0;";

    private LaterPromiseBoundariesTest() {
    }

    public static void main(String[] args) {
        List<String> marks = new ArrayList<>();
        for (int promise = 21; promise <= 40; promise++) {
            marks.add("promise" + promise);
        }
        Boundaries.runAll(LaterPromiseBoundariesTest.class, marks);
    }

    private static String lane(int wide, int dog, int eye, String beasts) {
        return PromiseBoundariesTest.lane(wide, dog, eye, beasts);
    }

    private static void due(String call, long got, long want) {
        Boundaries.due(call, got, want);
    }

    private static void due(String call, boolean got, boolean want) {
        Boundaries.due(call, got, want);
    }

    private static int[] at(int... numbers) {
        return numbers;
    }

    private static long[] are(long... answers) {
        return answers;
    }

    // ---- promises 21 and 22: holding, fog ----

    static void promise21_worths_0_to_20() {
        DogNotary x = new DogNotary();
        Boundaries.bounds("the first's worth", x, (y, n) -> y.holding(n, 0, NONE), at(0, 20), are(19, 10), NONE);
        Boundaries.bounds("the first's worth, a couple", x, (y, n) -> y.holding(n, 20, 0), at(0, 20), are(1, 90), NONE);
        Boundaries.bounds("the second's worth", x, (y, n) -> y.holding(0, n, NONE), at(0, 20), are(19, 10), NONE);
        Boundaries.bounds("the second's worth, a couple", x, (y, n) -> y.holding(20, n, 0), at(0, 20), are(0, 90), NONE);
    }

    static void promise21_k_none_and_0_to_how_many() {
        DogNotary x = new DogNotary();
        Boundaries.bounds("of 19", x, (y, n) -> y.holding(0, 0, n), at(NONE, 0, 18), are(19, 0, 90), NONE);
        Boundaries.bounds("of 10", x, (y, n) -> y.holding(20, 0, n), at(NONE, 0, 9), are(10, 0, 90), NONE);
        Boundaries.bounds("of 1", x, (y, n) -> y.holding(20, 20, n), at(NONE, 0), are(1, 90), NONE);
    }

    static void promise22_w_0_to_20() {
        DogNotary x = new DogNotary();
        Boundaries.bounds("N", x, (y, n) -> y.fog(n, 0, 1, 0), at(0, 20), are(0, 20), NONE);
        Boundaries.bounds("D", x, (y, n) -> y.fog(n, 5, 1, 1), at(0, 1, 20), are(1, 2, 1), NONE);
        Boundaries.bounds("SOON", x, (y, n) -> y.fog(n, 0, 1, 2), at(0, 20), are(1, 1), NONE);
    }

    static void promise22_p_0_to_10() {
        DogNotary x = new DogNotary();
        Boundaries.bounds("N", x, (y, n) -> y.fog(20, n, 1, 0), at(0, 10), are(20, 0), NONE);
        Boundaries.bounds("D", x, (y, n) -> y.fog(1, n, 1, 1), at(0, 1, 10), are(1, 10, 1), NONE);
        Boundaries.bounds("SOON", x, (y, n) -> y.fog(20, n, 1, 2), at(0, 7, 8, 10), are(1, 7, NONE, NONE), NONE);
    }

    static void promise22_n_1_to_9() {
        DogNotary x = new DogNotary();
        Boundaries.bounds("N", x, (y, n) -> y.fog(20, 5, n, 0), at(1, 9), are(10, 4859), NONE);
        Boundaries.bounds("D", x, (y, n) -> y.fog(20, 5, n, 1), at(1, 9), are(1, 256), NONE);
        Boundaries.bounds("SOON", x, (y, n) -> y.fog(20, 5, n, 2), at(1, 9), are(4, 4), NONE);
    }

    static void promise22_what_0_to_2() {
        Boundaries.bounds("fog", new DogNotary(), (y, n) -> y.fog(10, 5, 2, n), at(0, 1, 2), are(29, 4, 4), NONE);
    }

    // ---- promise 23: drawn ----

    static void promise23_which_fell() {
        Boundaries.numbered("drawn", new DogNotary(), FELL, LANES, (x, n) -> x.drawn(n, 1, 0, 1), are(0, 2), NO_SUCH);
    }

    static void promise23_n_0_to_60() {
        DogNotary x = Boundaries.with(FELL, "");
        Boundaries.bounds("drawn", x, (y, n) -> y.drawn(0, 1, n, 4), at(0, 60), are(0, 0), NO_SUCH);
    }

    static void promise23_each_seed_is_one() {
        DogNotary x = Boundaries.with(FELL, "");
        for (int seed : at(LEAST, LEAST + 1, -2, -1, 0, 1, GREATEST - 1, GREATEST)) {
            due("seed " + seed, x.drawn(0, seed, 60, 4), 0);
            due("seed " + seed + ", 0 times", x.drawn(0, seed, 0, 1), 7);
        }
    }

    static void promise23_what_of_no_beasts_one_and_six() {
        Boundaries.gaps("without beasts", Boundaries.with(FELL, ""), (x, n) -> x.drawn(0, 9, 3, n), NO_SUCH, 0, 5);
        DogNotary one = Boundaries.with(FELL, "ewe 2 3;");
        Boundaries.gaps("with one", one, (x, n) -> x.drawn(0, 9, 3, n), NO_SUCH, 0, 5, 10, 10, 20, 20);
        DogNotary six = Boundaries.with(FELL, SIX);
        Boundaries.gaps("with six", six, (x, n) -> x.drawn(0, 9, 3, n), NO_SUCH, 0, 5, 10, 15, 20, 25);
    }

    static void promise23_leaves_the_fell_as_told() {
        DogNotary x = Boundaries.with(FELL, SIX);
        String before = Boundaries.told(x);
        long behind = x.drawn(0, 4711, 60, 5);
        Boundaries.due("all that is told", Boundaries.told(x), before);
        due("once more", x.drawn(0, 4711, 60, 5), behind);
    }

    // ---- promises 24 to 27: middle, post, cornered, lined ----

    static void promise24_which_fell() {
        Boundaries.numbered("the cell", new DogNotary(), FELL, LANES, (x, n) -> x.middle(n, false), are(2, 3), NONE);
        Boundaries.numbered("steps", new DogNotary(), FELL, TWO_EWES, (x, n) -> x.middle(n, true), are(2, 3), NONE);
    }

    static void promise25_which_fell() {
        Boundaries.numbered("the cell", new DogNotary(), FELL, LANES, (x, n) -> x.post(n, 0, 1, false), are(1, 2), NO_SUCH);
        Boundaries.numbered("how many", new DogNotary(), FELL, LANES, (x, n) -> x.post(n, 0, 1, true), are(1, 1), NO_SUCH);
    }

    static void promise25_which_beast() {
        // of the six the first one has its neighbours about it, the last one two free cells
        DogNotary six = Boundaries.with(FELL, "dog 5 5 1;" + SIX);
        Boundaries.bounds("how many", six, (x, n) -> x.post(0, n, 1, true), at(0, 5), are(0, 1), NO_SUCH);
        Boundaries.bounds("the cell", six, (x, n) -> x.post(0, n, 1, false), at(0, 5), are(NONE, 15), NO_SUCH);
        DogNotary none = Boundaries.with(FELL, "");
        Boundaries.outside("of no beasts", none, (x, n) -> x.post(0, n, 1, true), NO_SUCH, LEAST, -1, 0, 1, 5, 6, GREATEST);
    }

    static void promise25_directions_0_to_3() {
        DogNotary six = Boundaries.with(FELL, "dog 5 5 1;" + SIX);
        Boundaries.bounds("how many", six, (x, n) -> x.post(0, 5, n, true), at(0, 1, 2, 3), are(0, 1, 1, 0), NO_SUCH);
        Boundaries.bounds("the cell", six, (x, n) -> x.post(0, 5, n, false), at(0, 1, 2, 3), are(NONE, 15, 10, NONE), NO_SUCH);
    }

    static void promise26_which_fell() {
        String[] two = {LANES[0], "size 4 2;pen 3 1;dog 3 0 9;ewe 0 0;wall 0 1;wall 1 1;wall 2 1;"};
        Boundaries.numbered("cornered", new DogNotary(), FELL, two, (x, n) -> x.cornered(n), are(0, 1), NONE);
    }

    static void promise27_which_fell() {
        String[] two = {LANES[0], lane(6, 2, 1, "ewe 3 0;ewe 4 0;")};
        Boundaries.numbered("lined", new DogNotary(), FELL, two, (x, n) -> x.lined(n, 0), are(0, 1), NONE);
    }

    static void promise27_k_of_none_one_and_six() {
        DogNotary none = Boundaries.with(FELL, "");
        Boundaries.outside("of none", none, (x, n) -> x.lined(0, n), NONE, LEAST, -2, -1, 0, 1, 6, GREATEST);
        Boundaries.bounds("of one", Boundaries.with(FELL, "ewe 2 3;"), (x, n) -> x.lined(0, n), at(0), are(0), NONE);
        DogNotary six = Boundaries.with(FELL, "ewe 5 5;ewe 0 1;ewe 0 2;ewe 0 3;ewe 0 4;ewe 0 5;");
        Boundaries.bounds("of six", six, (x, n) -> x.lined(0, n), at(0, 1, 4, 5), are(1, 2, 5, 0), NONE);
    }

    // ---- promise 28: greedy ----

    static void promise28_which_fell() {
        Boundaries.numbered("steps", new DogNotary(), FELL, LANES, (x, n) -> x.greedy(n, 0, 1), are(5, 2), NONE);
        Boundaries.numbered("the dog", new DogNotary(), FELL, LANES, (x, n) -> x.greedy(n, 0, 2), are(0, 2), NONE);
    }

    static void promise28_n_0_to_40() {
        DogNotary x = Boundaries.with(FELL, LANES[0]);
        Boundaries.bounds("penned", x, (y, n) -> y.greedy(0, n, 0), at(0, 4, 5, 40), are(0, 0, 1, 1), NONE);
        Boundaries.bounds("steps", x, (y, n) -> y.greedy(0, n, 1), at(0, 1, 40), are(5, 4, 0), NONE);
        Boundaries.bounds("the dog", x, (y, n) -> y.greedy(0, n, 2), at(0, 1, 39, 40), are(0, 1, 5, 6), NONE);
    }

    static void promise28_what_0_to_2() {
        DogNotary x = Boundaries.with(FELL, LANES[0]);
        Boundaries.bounds("greedy", x, (y, n) -> y.greedy(0, 3, n), at(0, 1, 2), are(0, 2, 3), NONE);
    }

    // ---- promises 29 to 31: caught, spread, thrice ----

    static void promise29_which_fell_and_which_drive() {
        String five = "go 1;".repeat(5);
        Boundaries.numbered("caught", Boundaries.with(DRIVE, five), FELL, TO_THE_PEN, (x, n) -> x.caught(n, 0, 0), are(5, 3), NONE);
        String[] drives = {five, "lie;" + five};
        Boundaries.numbered("caught", Boundaries.with(FELL, TO_THE_PEN), DRIVE, drives, (x, n) -> x.caught(0, n, 0), are(5, 6), NONE);
        due("neither", new DogNotary().caught(0, 0, 0), NONE);
    }

    static void promise29_which_beast() {
        DogNotary x = Boundaries.withDrive(lane(8, 0, 9, "ewe 6 0;ewe 5 0;ewe 4 0;ewe 3 0;ewe 2 0;ewe 1 0;"), "back;".repeat(12));
        Boundaries.bounds("caught", x, (y, n) -> y.caught(0, 0, n), at(0, 1, 4, 5), are(2, 4, 10, 12), NONE);
    }

    static void promise29_in_no_state() {
        DogNotary x = Boundaries.withDrive(lane(8, 0, 9, "ewe 6 0;ewe 5 0;"), "back;back;");
        due("the first", x.caught(0, 0, 0), 2);
        due("the second is penned by four", x.caught(0, 0, 1), NONE);
        Boundaries.tell(x, DRIVE, "back;back;back;back;");
        due("by four", x.caught(0, 1, 1), 4);
    }

    static void promise30_which_fell_and_which_drive() {
        String[] drives = {"go 1;", "lie;"};
        Boundaries.numbered("spread", Boundaries.with(DRIVE, drives), FELL, TWO_EWES, (x, n) -> x.spread(n, 0, 0), are(2, 3), NONE);
        Boundaries.numbered("spread", Boundaries.with(FELL, TWO_EWES), DRIVE, drives, (x, n) -> x.spread(0, n, 1), are(1, 2), NONE);
        due("neither", new DogNotary().spread(0, 0, 0), NONE);
    }

    static void promise30_n_0_to_end() {
        DogNotary x = Boundaries.withDrive(TWO_EWES[0], "go 1;back;lie;lie;back;");
        Boundaries.bounds("spread", x, (y, n) -> y.spread(0, 0, n), at(0, 1, 3), are(2, 1, 1), NONE);
        DogNotary forty = Boundaries.withDrive(TWO_EWES[0], "back;".repeat(40));
        Boundaries.bounds("spread of forty", forty, (y, n) -> y.spread(0, 0, n), at(0, 40), are(2, 2), NONE);
        DogNotary none = Boundaries.withDrive(TWO_EWES[0], "stand;");
        Boundaries.bounds("spread of none", none, (y, n) -> y.spread(0, 0, n), at(0), are(2), NONE);
    }

    static void promise30_fewer_than_two_beasts() {
        due("none", Boundaries.withDrive("", "lie;").spread(0, 0, 0), NONE);
        due("one", Boundaries.withDrive("ewe 2 0;", "lie;").spread(0, 0, 0), NONE);
        due("two", Boundaries.withDrive("ewe 2 0;ewe 3 0;", "lie;").spread(0, 0, 0), 1);
        due("six", Boundaries.withDrive(SIX, "lie;").spread(0, 0, 0), 4);
    }

    static void promise31_which_fell_and_which_drive() {
        String[] fells = {"size 4 2;pen 0 1;dog 0 0 1;", "size 6 2;pen 0 1;dog 0 0 1;"};
        String[] drives = {"go 1;go 1;", "go 1;"};
        Boundaries.numbered("thrice", Boundaries.with(DRIVE, drives), FELL, fells, (x, n) -> x.thrice(n, 0), are(1, 2), NONE);
        Boundaries.numbered("thrice", Boundaries.with(FELL, fells), DRIVE, drives, (x, n) -> x.thrice(0, n), are(1, 3), NONE);
        due("neither", new DogNotary().thrice(0, 0), NONE);
    }

    // ---- promise 32: stir ----

    static void promise32_which_fell() {
        Boundaries.numbered("the cell", new DogNotary(), FELL, LANES, (x, n) -> x.stir(n, false), are(1, 2), NONE);
        String[] two = {LANES[0], lane(8, 1, 2, "ewe 4 0;ewe 3 0;")};
        Boundaries.numbered("how many", new DogNotary(), FELL, two, (x, n) -> x.stir(n, true), are(1, 2), NONE);
    }

    // ---- promises 33 to 35: dear, idle, run ----

    static void promise33_which_book() {
        String[] books = {"dog 4 2;bargain 4 7;", "dog 9 1;dog 8 1;bargain 5 6;bargain 6 5;"};
        Boundaries.numbered("dear", new DogNotary(), BOOK, books, (x, n) -> x.dear(n, 0), are(7, 5), NONE);
    }

    static void promise33_which_dog() {
        DogNotary none = Boundaries.with(BOOK, "bargain 1 1;field 1;");
        Boundaries.outside("of none", none, (x, n) -> x.dear(0, n), NONE, LEAST, -2, -1, 0, 1, 4, 5, GREATEST);
        DogNotary five = Boundaries.with(BOOK, "dog 5 1;dog 6 1;dog 7 1;dog 8 1;dog 9 1;bargain 9 9;bargain 5 3;");
        Boundaries.bounds("of five", five, (x, n) -> x.dear(0, n), at(0, 1, 2, 3, 4), are(0, 0, 0, 0, 9), NONE);
    }

    static void promise34_which_book() {
        String[] books = {"dog 4 2;bargain 4 7;", "dog 9 1;dog 8 1;bargain 5 6;"};
        Boundaries.numbered("idle", new DogNotary(), BOOK, books, (x, n) -> x.idle(n), are(0, 2), NONE);
    }

    static void promise35_which_book() {
        String[] books = {"field 3;field 5;", "field 6;field 5;"};
        Boundaries.numbered("the first", new DogNotary(), BOOK, books, (x, n) -> x.run(n, 1, false), are(1, 0), NONE);
        Boundaries.numbered("how much", new DogNotary(), BOOK, books, (x, n) -> x.run(n, 1, true), are(5, 6), NONE);
    }

    static void promise35_m_1_to_as_many_as_there_are() {
        DogNotary none = Boundaries.with(BOOK, "dog 1 1;bargain 1 1;");
        Boundaries.outside("of no fields", none, (x, n) -> x.run(0, n, true), NONE, LEAST, -1, 0, 1, 10, 11, GREATEST);
        for (int fields = 1; fields <= 10; fields++) {
            DogNotary x = Boundaries.with(BOOK, "field 4;".repeat(fields));
            Boundaries.bounds("the first of " + fields, x, (y, n) -> y.run(0, n, false), at(1, fields), are(0, 0), NONE);
            Boundaries.bounds("how much of " + fields, x, (y, n) -> y.run(0, n, true), at(1, fields), are(4, 4 * fields), NONE);
        }
    }

    // ---- promises 36 and 37: would, reply ----

    static void promise36_which_log() {
        String[] logs = {"twice 3 3 3 4 0;", "went 3 3 3 4 0;"};
        Boundaries.numbered("would", new DogNotary(), LOG, logs, (x, n) -> x.would(n, 27, 26, 0), are(11, 19), NONE);
    }

    static void promise36_both_cells_0_to_63() {
        DogNotary x = Boundaries.with(LOG, "went 3 3 3 4 0;");
        Boundaries.bounds("the beast", x, (y, n) -> y.would(0, n, 27, 0), at(0, 19, 63), are(0, 11, 63), NONE);
        Boundaries.bounds("the dog", x, (y, n) -> y.would(0, 27, n, 0), at(0, 26, 63), are(27, 19, 27), NONE);
        for (int c = 0; c < 64; c++) {
            due("both in " + c, x.would(0, c, c, 0), NONE);
        }
    }

    static void promise36_k_0_to_how_many_fit() {
        DogNotary all = Boundaries.with(LOG, "");
        Boundaries.bounds("of all", all, (y, n) -> y.would(0, 27, 26, n), at(0, 35), are(19, 27), NONE);
        DogNotary one = Boundaries.with(LOG, "twice 3 3 3 4 0;stayed 3 3 3 5;");
        Boundaries.bounds("of one", one, (y, n) -> y.would(0, 27, 26, n), at(0), are(11), NONE);
        DogNotary none = Boundaries.with(LOG, NOTHING_FITS);
        Boundaries.outside("of none", none, (y, n) -> y.would(0, 27, 26, n), NONE, LEAST, -1, 0, 1, 35, 36, GREATEST);
    }

    static void promise37_worths_0_to_20_and_y_0_to_9() {
        DogNotary x = new DogNotary();
        Boundaries.bounds("the worth", x, (y, n) -> y.reply(n, 9), at(0, 9, 10, 20), are(0, 0, 9, 9), NONE);
        Boundaries.bounds("what the other says", x, (y, n) -> y.reply(20, n), at(0, 1, 9), are(0, 1, 9), NONE);
    }

    // ---- promise 38: count ----

    static void promise38_sorts_0_to_3() {
        Boundaries.bounds("of nothing", new DogNotary(), (x, n) -> x.count(n), at(0, 1, 2, 3), are(0, 0, 0, 0), NO_SUCH);
        Boundaries.bounds("of all", PromiseBoundariesTest.full(), (x, n) -> x.count(n), at(0, 1, 2, 3), are(2, 2, 2, 2), NO_SUCH);
        for (int sort = 0; sort < 4; sort++) {
            DogNotary x = Boundaries.with(sort, "");
            for (int other = 0; other < 4; other++) {
                due("of " + other, x.count(other), other == sort ? 1 : 0);
            }
        }
    }

    // ---- promises 39 and 40: image, again ----

    static void promise39_k_0_to_2() {
        for (int k : at(LEAST, -2, -1, 3, 4, GREATEST)) {
            DogNotary x = PromiseBoundariesTest.full();
            String before = Boundaries.told(x);
            due("image " + k, x.image(k), false);
            Boundaries.due("all that is told", Boundaries.told(x), before);
            for (int other : at(k, 0, 1, 2)) {
                due("no image " + other + " came of it", x.again(other), false);
            }
        }
        for (int k = 0; k < 3; k++) {
            DogNotary x = new DogNotary();
            due("image " + k, x.image(k), true);
            for (int other = 0; other < 3; other++) {
                due("there is image " + other, x.again(other), other == k);
            }
        }
    }

    static void promise39_a_refused_one_leaves_the_others() {
        DogNotary x = Boundaries.with(DRIVE, "lie;");
        x.image(2);
        x.text(DRIVE, NONE);
        due("image 3", x.image(3), false);
        due("image -1", x.image(-1), false);
        due("again 2", x.again(2), true);
        due("drives as image 2 has it", x.count(DRIVE), 1);
    }

    static void promise39_leaves_all_as_it_is() {
        DogNotary x = PromiseBoundariesTest.full();
        PromisesTest.feedAll(x, "lie;");
        String before = Boundaries.told(x);
        due("image 1", x.image(1), true);
        Boundaries.due("all that is told", Boundaries.told(x), before);
        due("the tape", x.text(DRIVE, 0), 0);
        due("its whistle", x.whistle(0, 0, 0), 1);
    }

    static void promise39_the_later_one_of_the_same_k() {
        DogNotary x = Boundaries.with(DRIVE, "lie;");
        x.image(0);
        x.text(DRIVE, NONE);
        due("image 0 once more", x.image(0), true);
        x.text(DRIVE, 0);
        due("again", x.again(0), true);
        due("drives", x.count(DRIVE), 2);
        due("the first drive's whistles", x.whistle(0, NONE, 0), 1);
    }

    static void promise40_none_such() {
        DogNotary x = PromiseBoundariesTest.full();
        due("image 1", x.image(1), true);
        due("a fault", Boundaries.tellInPlace(x, DRIVE, 0, "lie"), NONE);
        PromisesTest.feedAll(x, "go 2;");
        String before = Boundaries.told(x);
        for (int k : at(LEAST, -2, -1, 0, 2, 3, 4, GREATEST)) {
            due("again " + k, x.again(k), false);
        }
        Boundaries.due("all that is told", Boundaries.told(x), before);
        due("the tape", x.text(DRIVE, 0), 0);
        due("its whistle", x.whistle(0, 0, 1), 2);
    }

    static void promise40_all_that_is_told() {
        for (int k = 0; k < 3; k++) {
            DogNotary x = PromiseBoundariesTest.full();
            due("a fault", Boundaries.tellInPlace(x, DRIVE, 0, "go 1;go 4;"), NONE);
            String before = Boundaries.told(x);
            due("image", x.image(k), true);
            for (int sort = 0; sort < 4; sort++) {
                x.text(sort, 0);
                x.text(sort, 1);
            }
            due("again", x.again(k), true);
            Boundaries.due("all that is told", Boundaries.told(x), before);
        }
    }

    static void promise40_how_many_there_were() {
        DogNotary x = new DogNotary();
        x.image(0);
        for (int sort = 0; sort < 4; sort++) {
            x.text(sort, NONE);
        }
        x.image(1);
        for (int sort = 0; sort < 4; sort++) {
            x.text(sort, NONE);
        }
        int[] images = {1, 0, 1, 0, 0};
        for (int k : images) {
            due("again " + k, x.again(k), true);
            for (int sort = 0; sort < 4; sort++) {
                due("count " + sort, x.count(sort), k);
                due("the next one's number", x.text(sort, NONE), k);
            }
        }
    }

    static void promise40_the_tape_with_its_bytes() {
        for (int length : at(0, 4, 600)) {
            DogNotary x = new DogNotary();
            PromisesTest.feedAll(x, length == 0 ? "" : "lie;" + " ".repeat(length - 4));
            x.image(0);
            x.end(0);
            for (int i = 0; i < 30; i++) {
                x.feed(0, 0, 0, 0, 0);
            }
            due("again", x.again(0), true);
            due("no longer than it was", x.end(length + 1), NONE);
            due("as long as it was", x.end(length), length);
            due("its text", x.text(DRIVE, NONE), 0);
            due("its whistles", x.whistle(0, NONE, 0), length == 0 ? 0 : 1);
        }
    }

    static void promise40_the_fault_and_its_place() {
        DogNotary x = new DogNotary();
        x.image(0);
        Boundaries.tellInPlace(x, FELL, NONE, "wall 0 0; ");
        x.image(1);
        x.text(9, 9);
        due("again 1", x.again(1), true);
        due("its fault", x.fault(0), 5);
        due("its place", x.fault(1), 10);
        due("again 0", x.again(0), true);
        due("no fault", x.fault(0), 0);
        due("no place", x.fault(1), NONE);
    }

    static void promise40_an_image_stays_as_it_was() {
        DogNotary x = Boundaries.with(DRIVE, "lie;");
        x.image(0);
        x.image(1);
        due("again 0", x.again(0), true);
        x.text(DRIVE, 0);
        x.text(FELL, NONE);
        x.image(1);
        due("again 0 once more", x.again(0), true);
        due("whistles", x.whistle(0, NONE, 0), 1);
        due("fells", x.count(FELL), 0);
        due("again 1", x.again(1), true);
        due("whistles", x.whistle(0, NONE, 0), 0);
        due("fells", x.count(FELL), 1);
    }
}
