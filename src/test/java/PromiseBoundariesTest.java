import java.util.ArrayList;
import java.util.List;

/**
 * Promises 1 to 20: each number of a call at its last value inside and its first one outside, on both sides; refused calls,
 * and what they leave as it was. A test's name has the promise's number and the case.
 */
public final class PromiseBoundariesTest {
    private static final int NONE = Boundaries.NONE;
    private static final int NO_SUCH = Boundaries.NO_SUCH;
    private static final int LEAST = Boundaries.LEAST;
    private static final int GREATEST = Boundaries.GREATEST;
    private static final int FELL = Boundaries.FELL;
    private static final int DRIVE = Boundaries.DRIVE;
    private static final int BOOK = Boundaries.BOOK;
    private static final int LOG = Boundaries.LOG;

    /** Two lanes: an ewe two steps ahead of the dog, five off the pen; an ewe next to him, two off the pen. */
    static final String[] LANES = {lane(8, 0, 1, "ewe 2 0;"), lane(6, 2, 1, "ewe 3 0;")};
    static final String[] DRIVES = {"back;go 3;", "lie;stand;stand;"};
    static final String[] BOOKS = {"dog 4 2;bargain 4 7;field 3;", "dog 9 1;dog 8 3;bargain 5 6;bargain 6 5;field 8;field 9;"};
    /** Bolters all; an ewe by an eye of 8 or 9. */
    static final String[] LOGS = {"twice 3 3 3 4 0;", "went 7 6 0 5 2;went 3 3 3 4 0;"};
    static final String SIX = "ewe 2 0;ram 3 0;bolter 4 0;goose 5 0;ewe 2 1;ram 3 1;";
    private static final String[][] TEXTS = {LANES, DRIVES, BOOKS, LOGS};

    private PromiseBoundariesTest() {
    }

    public static void main(String[] args) {
        List<String> marks = new ArrayList<>();
        for (int promise = 1; promise <= 20; promise++) {
            marks.add("promise" + promise);
        }
        Boundaries.runAll(PromiseBoundariesTest.class, marks);
    }

    /** A fell of two rows: the lower one is all wall, the pen at the right end of the upper one. */
    static String lane(int wide, int dog, int eye, String beasts) {
        StringBuilder s = new StringBuilder("size " + wide + " 2;pen " + (wide - 1) + " 0;dog " + dog + " 0 " + eye + ";" + beasts);
        for (int c = 0; c < wide; c++) {
            s.append("wall ").append(c).append(" 1;");
        }
        return s.toString();
    }

    private static void due(String call, long got, long want) {
        Boundaries.due(call, got, want);
    }

    private static int[] at(int... numbers) {
        return numbers;
    }

    private static long[] are(long... answers) {
        return answers;
    }

    /** All four sorts, two of each. */
    static DogNotary full() {
        DogNotary x = new DogNotary();
        for (int sort = 0; sort < 4; sort++) {
            Boundaries.tell(x, sort, TEXTS[sort][0]);
            Boundaries.tell(x, sort, TEXTS[sort][1]);
        }
        return x;
    }

    // ---- promise 1: a new object ----

    static void promise1_nothing_is_told() {
        DogNotary x = new DogNotary();
        for (int sort = 0; sort < 4; sort++) {
            due("count " + sort, x.count(sort), 0);
        }
        due("fault", x.fault(0), 0);
        due("place", x.fault(1), NONE);
        due("the tape is empty: end(1)", x.end(1), NONE);
        due("the tape is empty: end(0)", x.end(0), 0);
        due("the tape is empty: a feed", x.feed(0, 0, 0, 0, 0), 20);
    }

    static void promise1_no_images() {
        DogNotary x = new DogNotary();
        for (int k = 0; k < 3; k++) {
            due("again " + k, x.again(k) ? 1 : 0, 0);
        }
    }

    static void promise1_one_object_is_not_another() {
        DogNotary full = full();
        full.image(0);
        DogNotary x = new DogNotary();
        due("count", x.count(FELL), 0);
        due("again", x.again(0) ? 1 : 0, 0);
        due("the full one", full.count(FELL), 2);
    }

    static void promise1_the_512th_call_answers() {
        DogNotary x = new DogNotary();
        for (int call = 1; call <= 510; call += 2) {
            due("feed, call " + call, x.feed(0, 0, 0, 0, 0), 20);
            due("end, call " + (call + 1), x.end(0), 0);
        }
        due("text, call 511", x.text(LOG, NONE), 0);
        due("fits, call 512", x.fits(0, 0), 36);
    }

    // ---- promise 2: feed ----

    static void promise2_up_to_600() {
        DogNotary x = new DogNotary();
        for (int n = 20; n <= 600; n += 20) {
            due("feed", x.feed(0, 0, 0, 0, 0), n);
        }
        due("one more", x.feed(0, 0, 0, 0, 0), NONE);
        due("and one more", x.feed(0, 0, 0, 0, 0), NONE);
        due("nothing came", x.end(601), NONE);
        due("nothing went", x.end(600), 600);
    }

    static void promise2_from_580_and_from_581() {
        for (int had = 579; had <= 582; had++) {
            DogNotary x = new DogNotary();
            for (int i = 0; i < 30; i++) {
                x.feed(0, 0, 0, 0, 0);
            }
            due("shortened", x.end(had), had);
            due("feed from " + had, x.feed(0, 0, 0, 0, 0), had <= 580 ? had + 20 : NONE);
            due("what it has not", x.end((had <= 580 ? had + 20 : had) + 1), NONE);
        }
    }

    static void promise2_what_is_refused_does_not_come() {
        DogNotary x = new DogNotary();
        for (int i = 0; i < 30; i++) {
            x.feed(0x20202020, 0x20202020, 0x20202020, 0x20202020, 0x20202020);
        }
        due("shortened", x.end(590), 590);
        due("lie; five times, refused", x.feed(0x6c69653b, 0x6c69653b, 0x6c69653b, 0x6c69653b, 0x6c69653b), NONE);
        due("a text of blanks", x.text(DRIVE, NONE), 0);
        due("no whistles", x.whistle(0, NONE, 0), 0);
    }

    static void promise2_each_byte_has_its_place() {
        for (int i = 0; i < 20; i++) {
            for (int sign : at(0, '!', 127, 128, 255)) {
                int[] five = {0x20202020, 0x20202020, 0x0a0a0a0a, 0x20202020, 0x20202020};
                int shift = 24 - 8 * (i % 4);
                five[i / 4] = five[i / 4] & ~(255 << shift) | sign << shift;
                DogNotary x = new DogNotary();
                x.feed(five[0], five[1], five[2], five[3], five[4]);
                due("byte " + i + " being " + sign, x.text(DRIVE, NONE), NONE);
                due("its place", x.fault(1), i);
            }
        }
    }

    static void promise2_behind_a_shortened_tape() {
        DogNotary x = new DogNotary();
        x.feed(0x676f2031, 0x3b676f20, 0x323b2020, 0x20202020, 0x20202020);
        due("go 1;go", x.end(7), 7);
        x.feed(0x20333b20, 0x20202020, 0x20202020, 0x20202020, 0x20202020);
        due("27", x.end(27), 27);
        due("go 1;go 3;", x.text(DRIVE, NONE), 0);
        due("two whistles", x.whistle(0, NONE, 0), 2);
        due("the second", x.whistle(0, 1, 1), 3);
    }

    // ---- promise 3: end ----

    static void promise3_0_to_as_many_as_it_has() {
        for (int had : at(0, 20, 600)) {
            DogNotary x = new DogNotary();
            for (int i = 0; i < had; i += 20) {
                x.feed(0, 0, 0, 0, 0);
            }
            Boundaries.outside("end of " + had, x, DogNotary::end, NONE, LEAST, -2, -1, had + 1, had + 2, GREATEST);
            due("refused ones left it: as many as it has", x.end(had), had);
            due("0", x.end(0), 0);
            due("1 is too many then", x.end(1), NONE);
        }
    }

    static void promise3_what_was_struck_comes_no_more() {
        DogNotary x = new DogNotary();
        PromisesTest.feedAll(x, "go 1;lie;");
        due("one less", x.end(8), 8);
        due("back again", x.end(9), NONE);
        due("up to the first line", x.end(5), 5);
        due("text", x.text(DRIVE, NONE), 0);
        due("one whistle", x.whistle(0, NONE, 0), 1);
    }

    static void promise3_what_is_refused_strikes_nothing() {
        DogNotary x = new DogNotary();
        PromisesTest.feedAll(x, "go 1;lie;");
        due("below 0", x.end(-1), NONE);
        due("too many", x.end(10), NONE);
        due("text", x.text(DRIVE, NONE), 0);
        due("both whistles", x.whistle(0, NONE, 0), 2);
    }

    // ---- promise 4: text ----

    static void promise4_sorts_0_to_3() {
        for (int sort : at(LEAST, -2, -1, 4, 5, GREATEST)) {
            for (int place : at(NONE, 0, 1)) {
                DogNotary x = full();
                String before = Boundaries.told(x);
                due("sort " + sort + " at " + place, Boundaries.tellInPlace(x, sort, place, "lie;"), NO_SUCH);
                Boundaries.due("all else", Boundaries.told(x), before);
            }
        }
        for (int sort = 0; sort < 4; sort++) {
            due("sort " + sort, new DogNotary().text(sort, NONE), 0);
        }
    }

    static void promise4_further_ones_up_to_2() {
        for (int sort = 0; sort < 4; sort++) {
            DogNotary x = new DogNotary();
            due("the first of " + sort, x.text(sort, NONE), 0);
            due("the second", x.text(sort, NONE), 1);
            due("a third", x.text(sort, NONE), NO_SUCH);
            due("there are", x.count(sort), 2);
            for (int other = 0; other < 4; other++) {
                due("of " + other, x.count(other), other == sort ? 2 : 0);
            }
        }
    }

    static void promise4_in_the_place_of_one() {
        for (int sort = 0; sort < 4; sort++) {
            DogNotary x = new DogNotary();
            Boundaries.outside("in the place of none", x, in(sort), NO_SUCH, LEAST, -2, 0, 1, 2, GREATEST);
            due("there are", x.count(sort), 0);
            due("a first one", x.text(sort, NONE), 0);
            Boundaries.outside("in the place of none", x, in(sort), NO_SUCH, LEAST, -2, 1, 2, GREATEST);
            due("in the first one's place", x.text(sort, 0), 0);
            due("there are", x.count(sort), 1);
            due("a second one", x.text(sort, NONE), 1);
            Boundaries.outside("in the place of none", x, in(sort), NO_SUCH, LEAST, -2, 2, 3, GREATEST);
            due("in the first one's place", x.text(sort, 0), 0);
            due("in the second one's place", x.text(sort, 1), 1);
            due("there are", x.count(sort), 2);
        }
    }

    private static Boundaries.Call in(int sort) {
        return (x, n) -> x.text(sort, n);
    }

    static void promise4_in_its_place_alone() {
        for (int sort = 0; sort < 4; sort++) {
            for (int place = 0; place < 2; place++) {
                DogNotary x = full();
                due("in the place of " + place, Boundaries.tellInPlace(x, sort, place, TEXTS[sort][1 - place]), place);
                DogNotary y = new DogNotary();
                for (int other = 0; other < 4; other++) {
                    for (int k = 0; k < 2; k++) {
                        Boundaries.tell(y, other, TEXTS[other][other == sort ? 1 - place : k]);
                    }
                }
                Boundaries.due("as told so from the first", Boundaries.told(x), Boundaries.told(y));
            }
        }
    }

    static void promise4_nothing_of_the_one_before_stays() {
        for (int sort = 0; sort < 4; sort++) {
            DogNotary x = Boundaries.with(sort, TEXTS[sort][0]);
            due("an empty text in its place", x.text(sort, 0), 0);
            Boundaries.due("as an empty one", Boundaries.told(x), Boundaries.told(Boundaries.with(sort, "")));
        }
    }

    static void promise4_a_fault_changes_nothing_else() {
        String[] wrong = {"size 9 2;ewe 2 0;", "lie;go 4;", "field 1;dog 0 1;", "stayed 0 0 0 1;stayed 0 0 0 0;"};
        int[] places = {5, 7, 12, 28};
        for (int sort = 0; sort < 4; sort++) {
            for (int place = 0; place < 2; place++) {
                DogNotary x = full();
                String before = Boundaries.told(x);
                due("a fault in the place of " + place, Boundaries.tellInPlace(x, sort, place, wrong[sort]), NONE);
                Boundaries.due("all else", Boundaries.told(x), before.replace("fault 0 at -1", "fault 2 at " + places[sort]));
                due("the tape is empty", x.end(1), NONE);
            }
            DogNotary one = Boundaries.with(sort, TEXTS[sort][0]);
            due("a fault as a further one", Boundaries.tellInPlace(one, sort, NONE, wrong[sort]), NONE);
            due("there are", one.count(sort), 1);
            due("the next one's number", PromisesTest.say(one, sort, TEXTS[sort][1]), 1);
        }
    }

    static void promise4_no_text_is_read_where_there_is_no_place() {
        for (int sort = 0; sort < 4; sort++) {
            for (int place : at(LEAST, -2, NONE, 2, GREATEST)) {
                DogNotary x = full();
                due("a fault ahead of it", Boundaries.tellInPlace(x, DRIVE, 0, "go 4;"), NONE);
                due("the room is full, or no such one", Boundaries.tellInPlace(x, sort, place, "!!"), NO_SUCH);
                due("FAULT 0", x.fault(0), 0);
                due("no place", x.fault(1), NONE);
                due("the tape is taken", x.end(1), NONE);
                Boundaries.due("all else", Boundaries.told(x), Boundaries.told(full()));
            }
        }
    }

    static void promise4_the_tape_is_taken() {
        DogNotary x = new DogNotary();
        PromisesTest.feedAll(x, "lie;");
        due("a sound one", x.text(DRIVE, NONE), 0);
        due("the tape is empty", x.end(1), NONE);
        due("the next text is empty", x.text(DRIVE, NONE), 1);
        due("its whistles", x.whistle(1, NONE, 0), 0);
        PromisesTest.feedAll(x, "lie");
        due("a fault", x.text(DRIVE, 0), NONE);
        due("the tape is empty", x.end(1), NONE);
        due("from its beginning", x.feed(0, 0, 0, 0, 0), 20);
    }

    // ---- promise 5: fault ----

    static void promise5_what_0_and_1() {
        DogNotary x = new DogNotary();
        Boundaries.bounds("fault at first", x, DogNotary::fault, at(0, 1), are(0, NONE), NONE);
        due("a fault", Boundaries.tellInPlace(x, DRIVE, NONE, "lie;go 4;"), NONE);
        Boundaries.bounds("fault then", x, DogNotary::fault, at(0, 1), are(2, 7), NONE);
        Boundaries.gaps("fault", x, DogNotary::fault, NONE, 0, 1);
    }

    static void promise5_of_the_latest_text() {
        DogNotary x = new DogNotary();
        due("a fault", Boundaries.tellInPlace(x, DRIVE, NONE, "lie;go 4;"), NONE);
        due("another one", Boundaries.tellInPlace(x, FELL, NONE, "wall 0 0;"), NONE);
        due("fault", x.fault(0), 5);
        due("place", x.fault(1), 9);
        due("feeds and ends are no texts", x.feed(0, 0, 0, 0, 0) + x.end(0), 20);
        due("fault", x.fault(0), 5);
        due("a sound one", x.text(DRIVE, NONE), 0);
        due("fault", x.fault(0), 0);
        due("place", x.fault(1), NONE);
        due("a fault", Boundaries.tellInPlace(x, DRIVE, NONE, "lie"), NONE);
        due("a refused one", x.text(DRIVE, 1), NO_SUCH);
        due("fault", x.fault(0), 0);
        due("place", x.fault(1), NONE);
    }

    static void promise5_places_0_to_600() {
        DogNotary x = new DogNotary();
        due("at the first byte", Boundaries.tellInPlace(x, DRIVE, NONE, ";"), NONE);
        due("0", x.fault(1), 0);
        due("at the last byte", Boundaries.tellInPlace(x, DRIVE, NONE, " ".repeat(599) + ";"), NONE);
        due("599", x.fault(1), 599);
        due("at the end", Boundaries.tellInPlace(x, DRIVE, NONE, "lie" + " ".repeat(597)), NONE);
        due("600", x.fault(1), 600);
    }

    // ---- promises 6 and 7: fell, whistle ----

    static void promise6_which_fell() {
        Boundaries.numbered("WIDE", new DogNotary(), FELL, LANES, (x, n) -> x.fell(n, 0), are(8, 6), NONE);
        Boundaries.numbered("a WALL", new DogNotary(), FELL, LANES, (x, n) -> x.fell(n, 107), are(0, 1), NONE);
    }

    static void promise6_what_of_no_beasts_one_and_six() {
        DogNotary none = Boundaries.with(FELL, "");
        Boundaries.gaps("fell without beasts", none, (x, n) -> x.fell(0, n), NONE, 0, 5, 100, 135);
        DogNotary one = Boundaries.with(FELL, "size 2 2;ewe 1 0;");
        Boundaries.gaps("fell with one", one, (x, n) -> x.fell(0, n), NONE, 0, 5, 10, 10, 20, 20, 100, 103);
        DogNotary six = Boundaries.with(FELL, "size 8 8;" + SIX);
        Boundaries.gaps("fell with six", six, (x, n) -> x.fell(0, n), NONE, 0, 5, 10, 15, 20, 25, 100, 163);
    }

    static void promise6_kinds_and_cells_of_six() {
        DogNotary x = Boundaries.with(FELL, "size 8 7;" + SIX);
        int[] cells = {2, 3, 4, 5, 10, 11};
        for (int b = 0; b < 6; b++) {
            due("kind " + b, x.fell(0, 10 + b), b % 4);
            due("cell " + b, x.fell(0, 20 + b), cells[b]);
        }
    }

    static void promise6_walls_first_and_last() {
        DogNotary x = Boundaries.with(FELL, "size 8 8;pen 1 0;wall 0 0;wall 7 7;");
        int[] whats = {99, 100, 101, 162, 163, 164};
        int[] wanted = {NONE, 1, 0, 0, 1, NONE};
        for (int i = 0; i < whats.length; i++) {
            due("fell(0, " + whats[i] + ")", x.fell(0, whats[i]), wanted[i]);
        }
    }

    static void promise7_which_drive() {
        Boundaries.numbered("how many", new DogNotary(), DRIVE, DRIVES, (x, n) -> x.whistle(n, NONE, 0), are(2, 3), NO_SUCH);
        Boundaries.numbered("the second", new DogNotary(), DRIVE, DRIVES, (x, n) -> x.whistle(n, 1, 0), are(0, 2), NO_SUCH);
    }

    static void promise7_k_of_none_one_and_forty() {
        Boundaries.bounds("of none", Boundaries.with(DRIVE, ""), (x, n) -> x.whistle(0, n, 0), at(NONE), are(0), NO_SUCH);
        Boundaries.bounds("of one", Boundaries.with(DRIVE, "stand;"), (x, n) -> x.whistle(0, n, 0), at(NONE, 0), are(1, 2), NO_SUCH);
        DogNotary forty = Boundaries.with(DRIVE, "lie;".repeat(39) + "back;");
        Boundaries.bounds("of forty", forty, (x, n) -> x.whistle(0, n, 0), at(NONE, 0, 38, 39), are(40, 1, 1, 3), NO_SUCH);
        Boundaries.bounds("of forty", forty, (x, n) -> x.whistle(0, n, 1), at(0, 39), are(NONE, NONE), NO_SUCH);
    }

    static void promise7_what_0_and_1() {
        DogNotary x = Boundaries.with(DRIVE, "go 0;go 3;lie;stand;back;");
        int[] sorts = {0, 0, 1, 2, 3};
        int[] ways = {0, 3, NONE, NONE, NONE};
        for (int k = 0; k < 5; k++) {
            int which = k;
            Boundaries.bounds("whistle " + k, x, (y, n) -> y.whistle(0, which, n), at(0, 1), are(sorts[k], ways[k]), NO_SUCH);
        }
        Boundaries.bounds("how many", x, (y, n) -> y.whistle(0, NONE, n), at(0), are(5), NO_SUCH);
    }

    // ---- promises 8 and 9: till, state ----

    static void promise8_which_fell_and_which_drive() {
        Boundaries.numbered("till", Boundaries.with(DRIVE, DRIVES), FELL, LANES, (x, n) -> x.till(n, 0), are(1, 2), NONE);
        Boundaries.numbered("till", Boundaries.with(FELL, LANES), DRIVE, DRIVES, (x, n) -> x.till(0, n), are(1, 2), NONE);
        due("neither", new DogNotary().till(0, 0), NONE);
    }

    static void promise8_0_to_40() {
        DogNotary x = Boundaries.withDrive("", "stand;");
        due("the first can't be", x.till(0, 0), 0);
        Boundaries.tell(x, DRIVE, "back;".repeat(40));
        due("all can", x.till(0, 1), 40);
    }

    static void promise9_which_fell_and_which_drive() {
        Boundaries.numbered("the dog", Boundaries.with(DRIVE, DRIVES), FELL, LANES, (x, n) -> x.state(n, 0, 1, 1), are(0, 2), NO_SUCH);
        Boundaries.numbered("lies", Boundaries.with(FELL, LANES), DRIVE, DRIVES, (x, n) -> x.state(0, n, 1, 2), are(0, 1), NO_SUCH);
        due("neither", new DogNotary().state(0, 0, 0, 0), NO_SUCH);
    }

    static void promise9_n_0_to_end() {
        for (int end : at(0, 1, 39)) {
            DogNotary x = Boundaries.withDrive("", "back;".repeat(end) + "stand;");
            Boundaries.bounds("minute", x, (y, n) -> y.state(0, 0, n, 0), at(0, end), are(0, end), NO_SUCH);
        }
        DogNotary all = Boundaries.withDrive("", "back;".repeat(40));
        Boundaries.bounds("minute of forty", all, (y, n) -> y.state(0, 0, n, 0), at(0, 39, 40), are(0, 39, 40), NO_SUCH);
        DogNotary none = Boundaries.withDrive("", "");
        Boundaries.bounds("minute of none", none, (y, n) -> y.state(0, 0, n, 0), at(0), are(0), NO_SUCH);
    }

    static void promise9_what_of_no_beasts_one_and_six() {
        DogNotary none = Boundaries.withDrive("", "lie;");
        Boundaries.gaps("state without beasts", none, (x, n) -> x.state(0, 0, 1, n), NO_SUCH, 0, 5);
        DogNotary one = Boundaries.withDrive("ewe 2 3;", "lie;");
        Boundaries.gaps("state with one", one, (x, n) -> x.state(0, 0, 1, n), NO_SUCH, 0, 5, 10, 10, 20, 20);
        DogNotary six = Boundaries.withDrive(SIX, "lie;");
        Boundaries.gaps("state with six", six, (x, n) -> x.state(0, 0, 1, n), NO_SUCH, 0, 5, 10, 15, 20, 25);
    }

    static void promise9_lies_and_back_are_0_or_1() {
        DogNotary x = Boundaries.withDrive("", "lie;back;stand;back;");
        int[] lies = {0, 1, 1, 0, 0};
        int[] back = {0, 0, 1, 1, 0};
        for (int n = 0; n <= 4; n++) {
            due("lies behind " + n, x.state(0, 0, n, 2), lies[n]);
            due("back behind " + n, x.state(0, 0, n, 3), back[n]);
        }
    }

    static void promise9_penned_and_steps() {
        // with his back turned he drives none; the first one has one step to the pen, the second two, the third four
        DogNotary x = Boundaries.withDrive(lane(8, 2, 9, "bolter 6 0;bolter 5 0;bolter 3 0;"), "back;back;back;back;");
        int[] penned = {0, 0, 3, 3, 7};
        int[] steps = {0, 0, 5, 5, 7};
        for (int n = 0; n <= 4; n++) {
            due("penned behind " + n, x.state(0, 0, n, 4), penned[n]);
            due("steps in all behind " + n, x.state(0, 0, n, 5), steps[n]);
        }
        due("the first one's steps", x.state(0, 0, 4, 20), 1);
        due("the second one's", x.state(0, 0, 4, 21), 2);
        due("the third one's", x.state(0, 0, 4, 22), 4);
    }

    static void promise9_all_six_are_penned() {
        DogNotary x = Boundaries.withDrive(lane(8, 0, 9, "ewe 6 0;ewe 5 0;ewe 4 0;ewe 3 0;ewe 2 0;ewe 1 0;"), "back;".repeat(12));
        due("behind eleven", x.state(0, 0, 11, 4), 31);
        due("behind twelve", x.state(0, 0, 12, 4), 63);
        due("steps in all", x.state(0, 0, 12, 5), 21);
    }

    // ---- promises 10 to 12: shy, driven, heard ----

    static void promise10_which_fell_and_which_beast() {
        Boundaries.numbered("shy", new DogNotary(), FELL, LANES, (x, n) -> x.shy(n, 0), are(2, 4), NONE);
        Boundaries.bounds("of six", Boundaries.with(FELL, "dog 5 5 1;" + SIX), (x, n) -> x.shy(0, n), at(0, 5), are(2, 9), NONE);
        Boundaries.outside("of none", Boundaries.with(FELL, ""), (x, n) -> x.shy(0, n), NONE, LEAST, -1, 0, 1, 5, 6, GREATEST);
        DogNotary two = Boundaries.with(FELL, LANES[0], "ewe 2 3;ewe 4 4;");
        Boundaries.bounds("the other fell has more", two, (x, n) -> x.shy(0, n), at(0), are(2), NONE);
        Boundaries.bounds("this one has two", two, (x, n) -> x.shy(1, n), at(0, 1), are(21, 28), NONE);
    }

    static void promise10_leaves_all_as_told() {
        DogNotary x = Boundaries.with(FELL, LANES[1]);
        due("shy", x.shy(0, 0), 4);
        due("once more", x.shy(0, 0), 4);
        due("her cell as told", x.fell(0, 20), 3);
    }

    static void promise11_which_fell_and_which_beast() {
        Boundaries.numbered("how many", new DogNotary(), FELL, LANES, (x, n) -> x.driven(n, 0, 0), are(5, 3), NONE);
        Boundaries.numbered("which way", new DogNotary(), FELL, LANES, (x, n) -> x.driven(n, 0, 1), are(1, 3), NONE);
        Boundaries.numbered("reach", new DogNotary(), FELL, LANES, (x, n) -> x.driven(n, 0, 2), are(6, 3), NONE);
        DogNotary six = Boundaries.with(FELL, lane(8, 0, 1, "ewe 6 0;ewe 5 0;ewe 4 0;ewe 3 0;ewe 2 0;ewe 1 0;"));
        Boundaries.bounds("of six", six, (x, n) -> x.driven(0, n, 0), at(0, 4, 5), are(5, 5, NONE), NONE);
        Boundaries.bounds("reach of six", six, (x, n) -> x.driven(0, n, 2), at(0, 4, 5), are(2, 6, 1), NONE);
    }

    static void promise11_what_0_to_2() {
        DogNotary x = Boundaries.with(FELL, LANES[0]);
        Boundaries.bounds("driven", x, (y, n) -> y.driven(0, 0, n), at(0, 1, 2), are(5, 1, 6), NONE);
    }

    static void promise11_never() {
        DogNotary x = Boundaries.with(FELL, lane(8, 0, 1, "ewe 1 0;"));
        Boundaries.bounds("driven", x, (y, n) -> y.driven(0, 0, n), at(0, 1, 2), are(NONE, NONE, 1), NONE);
    }

    static void promise12_which_fell_and_which_beast() {
        Boundaries.numbered("N", new DogNotary(), FELL, LANES, (x, n) -> x.heard(n, 0, 7, false), are(50, 30), NONE);
        Boundaries.numbered("D", new DogNotary(), FELL, LANES, (x, n) -> x.heard(n, 0, 7, true), are(7, 7), NONE);
        DogNotary six = Boundaries.with(FELL, lane(8, 0, 1, "ewe 6 0;ewe 5 0;ewe 4 0;ewe 3 0;ewe 2 0;ewe 1 0;"));
        Boundaries.bounds("of six", six, (x, n) -> x.heard(0, n, 10, false), at(0, 4, 5), are(5, 5, NONE), NONE);
    }

    static void promise12_h_1_to_10() {
        DogNotary x = Boundaries.with(FELL, LANES[1]);
        Boundaries.bounds("N", x, (y, n) -> y.heard(0, 0, n, false), at(1, 10), are(30, 3), NONE);
        Boundaries.bounds("D", x, (y, n) -> y.heard(0, 0, n, true), at(1, 10), are(1, 1), NONE);
    }

    static void promise12_never() {
        DogNotary x = Boundaries.with(FELL, lane(8, 0, 1, "ewe 1 0;"));
        for (int h = 0; h <= 11; h++) {
            due("N by " + h, x.heard(0, 0, h, false), NONE);
            due("D by " + h, x.heard(0, 0, h, true), NONE);
        }
    }

    // ---- promises 13 and 14: safe, nearest ----

    static void promise13_which_fell() {
        Boundaries.numbered("how many", new DogNotary(), FELL, LANES, (x, n) -> x.safe(n, false), are(4, 2), NO_SUCH);
        String[] least = {LANES[0], lane(6, 2, 3, "ewe 1 0;")};
        Boundaries.numbered("the least", new DogNotary(), FELL, least, (x, n) -> x.safe(n, true), are(0, NONE), NO_SUCH);
    }

    static void promise13_none_is_not_none_such() {
        DogNotary x = Boundaries.with(FELL, lane(4, 0, 1, "ewe 1 0;"));
        due("how many", x.safe(0, false), 0);
        due("the least", x.safe(0, true), NONE);
        due("of none such, how many", x.safe(1, false), NO_SUCH);
        due("of none such, the least", x.safe(1, true), NO_SUCH);
    }

    static void promise14_which_fell() {
        Boundaries.numbered("the steps", new DogNotary(), FELL, LANES, (x, n) -> x.nearest(n, 0, true), are(2, 3), NONE);
        String[] others = {LANES[0], lane(6, 2, 1, "ewe 4 0;ewe 3 0;")};
        Boundaries.numbered("the beast", new DogNotary(), FELL, others, (x, n) -> x.nearest(n, 0, false), are(0, 1), NONE);
    }

    static void promise14_which_cell() {
        for (int most = 2; most <= 8; most++) {
            String s = "size " + most + " " + most + ";ewe 1 0;";
            Boundaries.bounds("of " + s, Boundaries.with(FELL, s), (x, n) -> x.nearest(0, n, true), at(0, most * most - 1),
                are(1, 2 * most - 3), NONE);
            Boundaries.bounds("of " + s, Boundaries.with(FELL, s), (x, n) -> x.nearest(0, n, false), at(0, most * most - 1),
                are(0, 0), NONE);
        }
        DogNotary wide = Boundaries.with(FELL, LANES[1]);
        Boundaries.bounds("the last cells are walls", wide, (x, n) -> x.nearest(0, n, true), at(0, 5), are(3, 2), NONE);
    }

    static void promise14_to_none() {
        DogNotary x = Boundaries.with(FELL, "", lane(8, 0, 1, "ewe 1 0;wall 4 0;"));
        due("without beasts, which", x.nearest(0, 0, false), NONE);
        due("without beasts, steps", x.nearest(0, 0, true), NONE);
        due("on her side of the wall", x.nearest(1, 3, true), 2);
        due("the wall itself", x.nearest(1, 4, true), NONE);
        due("on its other side, which", x.nearest(1, 5, false), NONE);
        due("on its other side, steps", x.nearest(1, 5, true), NONE);
    }

    // ---- promises 15 to 17: book, notary, parted ----

    static void promise15_which_book() {
        Boundaries.numbered("dogs", new DogNotary(), BOOK, BOOKS, (x, n) -> x.book(n, 0), are(1, 2), NONE);
        Boundaries.numbered("a field", new DogNotary(), BOOK, BOOKS, (x, n) -> x.book(n, 50), are(3, 8), NONE);
    }

    static void promise15_what_of_nothing_of_one_and_of_as_many_as_may_be() {
        Boundaries.gaps("an empty book", Boundaries.with(BOOK, ""), (x, n) -> x.book(0, n), NONE, 0, 2);
        DogNotary one = Boundaries.with(BOOK, BOOKS[0]);
        Boundaries.gaps("one of each", one, (x, n) -> x.book(0, n), NONE, 0, 2, 10, 10, 20, 20, 30, 30, 40, 40, 50, 50);
        DogNotary full = Boundaries.with(BOOK, "dog 9 3;".repeat(5) + "bargain 9 99;".repeat(8) + "field 99;".repeat(10));
        Boundaries.gaps("a full book", full, (x, n) -> x.book(0, n), NONE, 0, 2, 10, 14, 20, 24, 30, 37, 40, 47, 50, 59);
    }

    static void promise15_the_first_and_the_last() {
        DogNotary x = Boundaries.with(BOOK, "dog 1 0;dog 2 1;dog 3 2;dog 4 3;dog 5 0;bargain 1 10;" + "bargain 5 50;".repeat(6)
            + "bargain 8 80;field 11;" + "field 55;".repeat(8) + "field 20;");
        int[] whats = {0, 1, 2, 10, 14, 20, 24, 30, 37, 40, 47, 50, 59};
        int[] wanted = {5, 8, 10, 1, 5, 0, 0, 1, 8, 10, 80, 11, 20};
        for (int i = 0; i < whats.length; i++) {
            due("book(0, " + whats[i] + ")", x.book(0, whats[i]), wanted[i]);
        }
        due("the fourth dog's turns", x.book(0, 23), 3);
    }

    static void promise16_which_book() {
        Boundaries.numbered("the worth", new DogNotary(), BOOK, BOOKS, (x, n) -> x.notary(n, NONE), are(7, 11), NONE);
        Boundaries.numbered("the first", new DogNotary(), BOOK, BOOKS, (x, n) -> x.notary(n, 0), are(0, 0), NONE);
    }

    static void promise16_which_bargain() {
        Boundaries.bounds("of none", Boundaries.with(BOOK, "dog 1 1;field 1;"), (x, n) -> x.notary(0, n), at(NONE), are(0), NONE);
        Boundaries.bounds("of one", Boundaries.with(BOOK, "bargain 1 1;"), (x, n) -> x.notary(0, n), at(NONE, 0), are(0, 5), NONE);
        DogNotary eight = Boundaries.with(BOOK, "dog 9 3;".repeat(5) + "bargain 9 99;".repeat(8));
        Boundaries.bounds("of eight", eight, (x, n) -> x.notary(0, n), at(NONE, 0, 7), are(792, 0, 2), NONE);
    }

    static void promise17_which_book() {
        Boundaries.numbered("the worth", new DogNotary(), BOOK, BOOKS, (x, n) -> x.parted(n, 1, NONE), are(3, 17), NONE);
        Boundaries.numbered("the cut", new DogNotary(), BOOK, BOOKS, (x, n) -> x.parted(n, 2, 0), are(0, 1), NONE);
    }

    static void promise17_n_1_to_5() {
        DogNotary x = Boundaries.with(BOOK, "field 1;".repeat(10));
        Boundaries.bounds("the worth", x, (y, n) -> y.parted(0, n, NONE), at(1, 5), are(10, 2), NONE);
        Boundaries.bounds("the first cut", x, (y, n) -> y.parted(0, n, 0), at(2, 3, 4, 5), are(5, 3, 2, 2), NONE);
    }

    static void promise17_k_none_and_0_to_n_less_2() {
        DogNotary x = Boundaries.with(BOOK, "field 1;".repeat(10));
        int[] worth = {10, 5, 3, 2, 2};
        int[] last = {0, 5, 6, 6, 8};
        for (int n = 1; n <= 5; n++) {
            int parts = n;
            int[] inside = n == 1 ? at(NONE) : at(NONE, n - 2);
            long[] wants = n == 1 ? are(10) : are(worth[n - 1], last[n - 1]);
            Boundaries.bounds("parted among " + n, x, (y, k) -> y.parted(0, parts, k), inside, wants, NONE);
        }
    }

    // ---- promises 18 to 20: fact, fits, ask ----

    static void promise18_which_log() {
        Boundaries.numbered("how many", new DogNotary(), LOG, LOGS, (x, n) -> x.fact(n, NONE, 0), are(1, 2), NO_SUCH);
        Boundaries.numbered("the first", new DogNotary(), LOG, LOGS, (x, n) -> x.fact(n, 0, 0), are(1, 0), NO_SUCH);
    }

    static void promise18_which_fact() {
        Boundaries.bounds("of none", Boundaries.with(LOG, ""), (x, n) -> x.fact(0, n, 0), at(NONE), are(0), NO_SUCH);
        DogNotary eight = Boundaries.with(LOG, "twice 0 0 7 7 0;" + "went 0 0 0 1 0;".repeat(6) + "stayed 7 7 0 0;");
        Boundaries.bounds("of eight", eight, (x, n) -> x.fact(0, n, 0), at(NONE, 0, 7), are(8, 1, 2), NO_SUCH);
        Boundaries.bounds("its cells", eight, (x, n) -> x.fact(0, n, 1), at(0, 7), are(0, 63), NO_SUCH);
        Boundaries.bounds("the dog's", eight, (x, n) -> x.fact(0, n, 2), at(0, 7), are(63, 0), NO_SUCH);
        Boundaries.bounds("the direction", eight, (x, n) -> x.fact(0, n, 3), at(0, 7), are(0, NONE), NO_SUCH);
    }

    static void promise18_what_0_to_3() {
        DogNotary x = Boundaries.with(LOG, "stayed 3 4 5 6;twice 6 5 4 3 3;");
        Boundaries.bounds("stayed", x, (y, n) -> y.fact(0, 0, n), at(0, 1, 2, 3), are(2, 35, 53, NONE), NO_SUCH);
        Boundaries.bounds("twice", x, (y, n) -> y.fact(0, 1, n), at(0, 1, 2, 3), are(1, 46, 28, 3), NO_SUCH);
        Boundaries.bounds("how many", x, (y, n) -> y.fact(0, NONE, n), at(0), are(2), NO_SUCH);
    }

    static void promise19_which_log() {
        Boundaries.numbered("how many", new DogNotary(), LOG, LOGS, (x, n) -> x.fits(n, 0), are(9, 2), NO_SUCH);
        Boundaries.numbered("sure of the kind", new DogNotary(), LOG, LOGS, (x, n) -> x.fits(n, 1), are(2, 0), NO_SUCH);
        Boundaries.numbered("sure of the eye", new DogNotary(), LOG, LOGS, (x, n) -> x.fits(n, 2), are(NONE, NONE), NO_SUCH);
        Boundaries.numbered("the second", new DogNotary(), LOG, LOGS, (x, n) -> x.fits(n, 11), are(19, 8), NO_SUCH);
    }

    static void promise19_what_0_to_2_and_10_on() {
        Boundaries.gaps("all 36", Boundaries.with(LOG, ""), (x, n) -> x.fits(0, n), NO_SUCH, 0, 2, 10, 45);
        Boundaries.gaps("two", Boundaries.with(LOG, LOGS[1]), (x, n) -> x.fits(0, n), NO_SUCH, 0, 2, 10, 11);
        DogNotary none = Boundaries.with(LOG, "went 7 0 6 0 0;");
        Boundaries.gaps("none", none, (x, n) -> x.fits(0, n), NO_SUCH, 0, 2);
        due("none, how many", none.fits(0, 0), 0);
        due("none, no kind", none.fits(0, 1), NONE);
        due("none, no eye", none.fits(0, 2), NONE);
    }

    static void promise20_which_log() {
        Boundaries.numbered("ask", new DogNotary(), LOG, LOGS, (x, n) -> x.ask(n, 0), are(5, 1), NONE);
    }

    static void promise20_cells_0_to_63() {
        DogNotary one = Boundaries.with(LOG, LOGS[1]);
        // in the corners both stay; next to them one goes on from a dog nine steps off
        Boundaries.bounds("ask", one, (x, n) -> x.ask(0, n), at(0, 1, 62, 63), are(1, 31, 4, 0), NONE);
    }

    static void promise20_nothing_fits() {
        DogNotary x = Boundaries.with(LOG, "went 7 0 6 0 0;");
        for (int c = 0; c < 64; c++) {
            due("ask of " + c, x.ask(0, c), NONE);
        }
    }
}
