import java.util.List;

/** Boundaries of terms 3 to 6, of what is asked: the last input inside, the first one outside, when there is none, ties. */
public final class LaterTermBoundariesTest {
    private static final int NONE = Boundaries.NONE;
    private static final int NO_SUCH = Boundaries.NO_SUCH;
    /** The bottom row of a fell 8 by 2 but for its last cell, so that the top row is a lane. */
    private static final String LANE_WALLS = "wall 0 1;wall 1 1;wall 2 1;wall 3 1;wall 4 1;wall 5 1;wall 6 1;";

    private LaterTermBoundariesTest() {
    }

    public static void main(String[] args) {
        Boundaries.runAll(LaterTermBoundariesTest.class, List.of("term3", "term4", "term5", "term6"));
    }

    private static void due(String call, long got, long want) {
        Boundaries.due(call, got, want);
    }

    private static DogNotary fellOf(String s) {
        return Boundaries.with(Boundaries.FELL, s);
    }

    private static DogNotary bookOf(String s) {
        return Boundaries.with(Boundaries.BOOK, s);
    }

    private static DogNotary logOf(String s) {
        return Boundaries.with(Boundaries.LOG, s);
    }

    private static DogNotary drive(String fell, String drive) {
        return Boundaries.withDrive(fell, drive);
    }

    /** A lane of eight cells with the pen at its end, right. */
    private static String lane(int dog, int eye, String beasts) {
        return "size 8 2;pen 7 0;dog " + dog + " 0 " + eye + ";" + beasts + "wall 7 1;" + LANE_WALLS;
    }

    // ---- term 3: shy, driven, reach, heard ----

    static void term3_shy_all_others_stay() {
        // the one in front would make room, if they went one behind the other
        DogNotary x = fellOf(lane(0, 9, "ewe 2 0;ewe 1 0;"));
        due("the front one", x.shy(0, 0), 3);
        due("the one behind her", x.shy(0, 1), 1);
    }

    static void term3_driven_the_fewest_and_never() {
        for (int start = 2; start <= 6; start++) {
            DogNotary x = fellOf(lane(start - 2, 1, "ewe " + start + " 0;"));
            due("goings from " + start, x.driven(0, 0, 0), 7 - start);
            due("by the right from " + start, x.driven(0, 0, 1), 1);
        }
        DogNotary shut = fellOf(lane(0, 9, "ewe 1 0;"));
        due("he can't go: never", shut.driven(0, 0, 0), NONE);
        due("he can't go: no direction", shut.driven(0, 0, 1), NONE);
        DogNotary wrong = fellOf("size 8 2;pen 0 0;dog 1 0 1;ewe 3 0;" + LANE_WALLS + "wall 7 1;");
        due("he is between it and the pen: never", wrong.driven(0, 0, 0), NONE);
    }

    static void term3_driven_no_minute_goes_by_ahead_of_the_first_going() {
        // she is driven where he stands, but only behind a going; going right is barred by her, going left frees her
        DogNotary x = fellOf("size 8 2;pen 7 0;dog 1 0 2;ewe 2 0;" + LANE_WALLS + "wall 7 1;");
        due("left, and she goes from 2 to 3; then he follows", x.driven(0, 0, 1), 3);
        due("five steps by six goings at least", x.driven(0, 0, 0), 5);
    }

    static void term3_driven_all_others_are_away() {
        DogNotary x = fellOf(lane(0, 1, "ewe 2 0;ram 3 0;ram 6 0;"));
        due("as if she were alone", x.driven(0, 0, 0), 5);
        due("reach", x.driven(0, 0, 2), 6);
        due("the last ram", x.driven(0, 2, 0), 5);
    }

    static void term3_driven_of_several_directions_the_least() {
        String ahead = "size 3 3;pen 2 1;dog 0 1 2;ewe 1 1;wall 1 0;wall 1 2;";
        due("up or down", fellOf(ahead).driven(0, 0, 1), 0);
        due("down alone", fellOf(ahead + "wall 0 0;").driven(0, 0, 1), 2);
        due("neither", fellOf(ahead + "wall 0 0;wall 0 2;").driven(0, 0, 1), NONE);
    }

    static void term3_driven_by_its_own_kind() {
        due("a bolter behind an ewe", fellOf(lane(0, 9, "ewe 6 0;bolter 2 0;")).driven(0, 1, 0), 3);
        due("an ewe behind a bolter", fellOf(lane(0, 9, "bolter 6 0;ewe 2 0;")).driven(0, 1, 0), 5);
        due("a goose behind an ewe", fellOf(lane(0, 9, "ewe 6 0;goose 2 0;")).driven(0, 1, 0), NONE);
    }

    static void term3_driven_from_the_first_cell_and_the_last() {
        // to the left, beside it, so that it goes right; then up, behind it
        DogNotary first = fellOf("size 3 2;pen 2 0;dog 1 1 1;ewe 0 0;");
        due("from the first", first.driven(0, 0, 0), 2);
        due("left", first.driven(0, 0, 1), 3);
        due("it can be anywhere", first.driven(0, 0, 2), 6);
        // down, above it, so that it goes left; then down, behind it
        DogNotary last = fellOf("size 8 8;pen 5 7;dog 7 5 1;wall 6 6;ewe 7 7;");
        due("from the last", last.driven(0, 0, 0), 2);
        due("down", last.driven(0, 0, 1), 2);
        due("its cells", last.driven(0, 0, 2), 3);
    }

    static void term3_driven_a_long_way() {
        // a winding way of seven right, two down, seven left, two down, seven right, two down, and left to the ewe
        String rows = "wall 0 1;wall 1 1;wall 2 1;wall 3 1;wall 4 1;wall 5 1;wall 6 1;wall 1 3;wall 2 3;wall 3 3;wall 4 3;wall 5 3;"
            + "wall 6 3;wall 7 3;wall 0 5;wall 1 5;wall 2 5;wall 3 5;wall 4 5;wall 5 5;wall 6 5;";
        DogNotary x = fellOf("size 8 7;pen 0 6;dog 0 0 1;ewe 1 6;" + rows);
        due("as far as that", x.driven(0, 0, 0), 32);
        due("to the right", x.driven(0, 0, 1), 1);
        due("its own cell and the pen", x.driven(0, 0, 2), 2);
        due("if half are heard", x.heard(0, 0, 5, false), 64);
    }

    static void term3_driven_by_several_ways() {
        // to the right: into the pen; down: up, and then it may go to the right, and down into the pen
        DogNotary x = fellOf("size 3 3;pen 2 1;dog 0 0 1;ewe 1 1;");
        due("the fewest", x.driven(0, 0, 0), 1);
        due("to the right", x.driven(0, 0, 1), 1);
        due("its cells: its own, the pen, two above", x.driven(0, 0, 2), 4);
        // it goes up, right, down ahead of left, so never into the first column
        DogNotary never = fellOf("size 3 3;pen 0 0;dog 2 2 1;ewe 1 1;");
        due("never", never.driven(0, 0, 0), NONE);
        due("two columns of three", never.driven(0, 0, 2), 6);
    }

    static void term3_reach_counts_its_own_cell_and_the_pen() {
        due("it can't come anywhere", fellOf(lane(0, 9, "ewe 1 0;")).driven(0, 0, 2), 1);
        due("its own and the pen", fellOf(lane(4, 1, "ewe 6 0;")).driven(0, 0, 2), 2);
        due("one cell between", fellOf(lane(3, 1, "ewe 5 0;")).driven(0, 0, 2), 3);
        due("never penned, yet it goes", fellOf("size 8 2;pen 0 0;dog 1 0 1;ewe 3 0;" + LANE_WALLS + "wall 7 1;").driven(0, 0, 2), 5);
    }

    static void term3_heard_by_1_to_10_in_least_terms() {
        DogNotary x = fellOf(lane(0, 1, "ewe 2 0;"));
        long[] above = {50, 25, 50, 25, 10, 25, 50, 25, 50, 5};
        long[] below = {1, 1, 3, 2, 1, 3, 7, 4, 9, 1};
        for (int h = 1; h <= 10; h++) {
            due("N by " + h, x.heard(0, 0, h, false), above[h - 1]);
            due("D by " + h, x.heard(0, 0, h, true), below[h - 1]);
        }
        due("by 0", x.heard(0, 0, 0, false), NONE);
        due("by 11", x.heard(0, 0, 11, false), NONE);
    }

    // ---- term 3: safe, nearest ----

    static void term3_safe_by_the_eye() {
        // an ewe in the second cell of a lane: from the first she goes right, from the right she goes left
        int[] many = {5, 4, 3, 2, 1, 0, 0, 0, 0};
        for (int eye = 1; eye <= 9; eye++) {
            DogNotary x = fellOf("size 8 2;pen 7 1;dog 7 0 " + eye + ";ewe 1 0;" + LANE_WALLS);
            due("how many by eye " + eye, x.safe(0, false), many[eye - 1]);
            due("the least by eye " + eye, x.safe(0, true), eye < 6 ? eye + 2 : NONE);
        }
    }

    static void term3_safe_not_a_wall_the_pen_a_beasts() {
        due("all but the pen", fellOf("size 3 3;").safe(0, false), 8);
        due("the least", fellOf("size 3 3;").safe(0, true), 1);
        due("a wall", fellOf("size 3 3;wall 1 0;").safe(0, false), 7);
        due("the least then", fellOf("size 3 3;wall 1 0;").safe(0, true), 2);
        due("the dog's own cell alone", fellOf("size 2 2;wall 0 1;wall 1 0;").safe(0, true), 3);
        // a ewe in a corner behind walls stays always; her own cell is not one
        due("a beast's", fellOf("size 3 3;ewe 2 2;wall 2 1;wall 1 2;").safe(0, false), 5);
    }

    static void term3_nearest_by_walking() {
        String two = "size 8 2;pen 0 1;dog 1 1 1;ewe 1 0;ewe 6 0;";
        DogNotary x = fellOf(two);
        int[] nearest = {0, 0, 0, 0, 1, 1, 1, 1};
        int[] steps = {1, 0, 1, 2, 2, 1, 0, 1};
        for (int c = 0; c < 8; c++) {
            due("from " + c, x.nearest(0, c, false), nearest[c]);
            due("steps from " + c, x.nearest(0, c, true), steps[c]);
        }
        DogNotary even = fellOf("size 8 2;pen 0 1;dog 1 1 1;ewe 5 0;ewe 1 0;");
        due("of two the least", even.nearest(0, 3, false), 0);
        due("one step nearer to the other", even.nearest(0, 2, false), 1);
    }

    static void term3_nearest_walls_bar_and_nothing_else_does() {
        String ahead = "size 4 2;wall 0 1;wall 1 1;wall 2 1;wall 3 1;";
        due("by the pen's cell", fellOf(ahead + "pen 1 0;dog 3 0 1;ewe 2 0;").nearest(0, 0, true), 2);
        due("by the dog's cell", fellOf(ahead + "pen 3 0;dog 1 0 1;ewe 2 0;").nearest(0, 0, true), 2);
        due("a wall between", fellOf(ahead + "pen 3 0;dog 0 0 1;ewe 2 0;wall 1 0;").nearest(0, 0, true), NONE);
        due("to none", fellOf(ahead + "pen 3 0;dog 0 0 1;ewe 2 0;wall 1 0;").nearest(0, 0, false), NONE);
        due("without beasts", fellOf("").nearest(0, 0, false), NONE);
        due("from a wall", fellOf(ahead + "pen 1 0;dog 3 0 1;ewe 2 0;").nearest(0, 4, false), NONE);
        // a winding way: seven steps right, two down, seven left, two down, seven right, three down, seven left
        String winding = "size 8 8;pen 1 0;dog 2 0 1;ewe 0 7;wall 0 1;wall 1 1;wall 2 1;wall 3 1;wall 4 1;wall 5 1;wall 6 1;"
            + "wall 1 3;wall 2 3;wall 3 3;wall 4 3;wall 5 3;wall 6 3;wall 7 3;wall 0 5;wall 1 5;wall 2 5;wall 3 5;wall 4 5;wall 5 5;wall 6 5;";
        due("a long way", fellOf(winding).nearest(0, 0, true), 35);
    }

    // ---- term 3: notaries, parted ----

    static void term3_notaries_an_eye_that_is_enough() {
        for (int eye = 1; eye <= 9; eye++) {
            due("just enough, " + eye, bookOf("dog " + eye + " 1;bargain " + eye + " 7;").notary(0, NONE), 7);
            due("he drives it", bookOf("dog " + eye + " 1;bargain " + eye + " 7;").notary(0, 0), 0);
            if (eye < 9) {
                due("one less", bookOf("dog " + eye + " 1;bargain " + (eye + 1) + " 7;").notary(0, NONE), 0);
                due("none drives it", bookOf("dog " + eye + " 1;bargain " + (eye + 1) + " 7;").notary(0, 0), 5);
            }
        }
    }

    static void term3_notaries_as_many_as_his_turns() {
        int[] worth = {0, 8, 15, 21};
        for (int turns = 0; turns <= 3; turns++) {
            DogNotary x = bookOf("dog 9 " + turns + ";bargain 1 5;bargain 1 6;bargain 1 7;bargain 1 8;");
            due("the worth by " + turns, x.notary(0, NONE), worth[turns]);
            for (int b = 0; b < 4; b++) {
                due("who drives " + b + " by " + turns, x.notary(0, b), b >= 4 - turns ? 0 : 5);
            }
        }
    }

    static void term3_notaries_the_first_row_by_numbers() {
        DogNotary x = bookOf("dog 9 1;dog 9 1;bargain 1 4;bargain 1 4;bargain 1 4;");
        int[] row = {0, 1, 5};
        for (int b = 0; b < 3; b++) {
            due("who drives " + b, x.notary(0, b), row[b]);
        }
        due("one that is worth nothing is driven too", bookOf("dog 9 1;bargain 1 0;").notary(0, 0), 0);
        due("but not at another's cost", bookOf("dog 9 1;bargain 1 0;bargain 1 1;").notary(0, 0), 5);
        due("nothing is won by either", bookOf("dog 9 1;bargain 1 0;bargain 1 0;").notary(0, 1), 5);
    }

    static void term3_notaries_a_better_eye_is_needed_elsewhere() {
        DogNotary x = bookOf("dog 5 1;dog 9 1;bargain 5 5;bargain 9 7;");
        due("both", x.notary(0, NONE), 12);
        due("the lesser eye", x.notary(0, 0), 0);
        due("the better eye", x.notary(0, 1), 1);
        DogNotary y = bookOf("dog 9 1;dog 5 1;bargain 5 5;bargain 9 7;");
        due("both again", y.notary(0, NONE), 12);
        due("the better eye is kept for the second", y.notary(0, 0), 1);
        due("the second", y.notary(0, 1), 0);
    }

    static void term3_one_book_says_nothing_of_another() {
        DogNotary x = bookOf("dog 9 3;dog 9 3;dog 9 3;" + "bargain 1 9;".repeat(8) + "field 9;".repeat(10));
        Boundaries.tell(x, Boundaries.BOOK, "dog 5 1;dog 9 1;bargain 5 5;bargain 9 7;field 3;field 4;");
        due("the full one", x.notary(0, 7), 2);
        due("the other one", x.notary(1, NONE), 12);
        due("its row", x.notary(1, 1), 1);
        due("the full one, parted", x.parted(0, 5, NONE), 18);
        due("the other one, parted", x.parted(1, 5, NONE), 0);
        due("in two", x.parted(1, 2, NONE), 3);
        due("its cut", x.parted(1, 2, 0), 1);
    }

    static void term3_notaries_none_and_as_many_as_may_be() {
        due("an empty book", bookOf("").notary(0, NONE), 0);
        due("no dogs", bookOf("bargain 1 9;").notary(0, NONE), 0);
        due("no dogs: none drives it", bookOf("bargain 1 9;").notary(0, 0), 5);
        due("no bargains", bookOf("dog 9 3;").notary(0, NONE), 0);
        DogNotary x = bookOf("dog 9 3;".repeat(5) + "bargain 9 99;".repeat(8));
        due("all eight", x.notary(0, NONE), 792);
        int[] row = {0, 0, 0, 1, 1, 1, 2, 2};
        for (int b = 0; b < 8; b++) {
            due("who drives " + b, x.notary(0, b), row[b]);
        }
        DogNotary few = bookOf("dog 9 1;".repeat(5) + "bargain 9 99;".repeat(8));
        due("five of eight", few.notary(0, NONE), 495);
        due("the last turn", few.notary(0, 4), 4);
        due("no turn is left", few.notary(0, 5), 5);
    }

    static void term3_parted_among_1_to_5() {
        DogNotary x = bookOf("field 99;".repeat(10));
        int[] worth = {990, 495, 297, 198, 198};
        for (int n = 1; n <= 5; n++) {
            due("the least of " + n, x.parted(0, n, NONE), worth[n - 1]);
        }
        for (int k = 0; k < 4; k++) {
            due("cut " + k + " of 5", x.parted(0, 5, k), 2 * k + 2);
        }
        due("among 0", x.parted(0, 0, NONE), NONE);
        due("among 6", x.parted(0, 6, NONE), NONE);
    }

    static void term3_parted_some_may_be_empty() {
        due("no fields", bookOf("").parted(0, 5, NONE), 0);
        due("no fields: the cut", bookOf("").parted(0, 5, 3), 0);
        DogNotary x = bookOf("field 3;field 3;field 3;field 3;");
        due("as many parts as fields", x.parted(0, 4, NONE), 3);
        due("one more part", x.parted(0, 5, NONE), 0);
        for (int k = 0; k < 4; k++) {
            due("then the first row by numbers", x.parted(0, 5, k), 0);
        }
    }

    static void term3_parted_the_first_row_by_numbers() {
        DogNotary x = bookOf("field 0;field 4;field 0;field 0;field 4;field 0;");
        due("the least part", x.parted(0, 2, NONE), 4);
        due("the cut, as early as can be", x.parted(0, 2, 0), 2);
        DogNotary late = bookOf("field 1;field 1;field 8;field 2;");
        due("the least part", late.parted(0, 2, NONE), 2);
        due("not the cut that is most even, the first", late.parted(0, 2, 0), 2);
    }

    // ---- term 4: logs ----

    /** Where the dog is so many steps, 1 .. 10, from a beast in column 7, row 6, such that only down is further from him. */
    private static String dogAt(int steps) {
        return steps < 9 ? (8 - steps) + " 5" : steps == 9 ? "0 4" : "0 3";
    }

    static void term4_went_by_an_eye_that_is_enough() {
        due("next to it: each ewe, each ram", logOf("went 7 6 " + dogAt(1) + " 2;").fits(0, 0), 18);
        for (int steps = 2; steps <= 9; steps++) {
            DogNotary x = logOf("went 7 6 " + dogAt(steps) + " 2;");
            due("ewes and bolters at " + steps, x.fits(0, 0), 2 * (10 - steps));
            due("the first ewe at " + steps, x.fits(0, 10), steps - 1);
            due("the last bolter at " + steps, x.fits(0, 10 + 2 * (10 - steps) - 1), 26);
            due("none behind it at " + steps, x.fits(0, 10 + 2 * (10 - steps)), NO_SUCH);
        }
        due("beyond every eye", logOf("went 7 6 " + dogAt(10) + " 2;").fits(0, 0), 0);
    }

    static void term4_stayed_by_an_eye_that_is_not_enough() {
        due("next to it: geese", logOf("stayed 7 6 " + dogAt(1) + ";").fits(0, 0), 9);
        for (int steps = 2; steps <= 9; steps++) {
            due("at " + steps, logOf("stayed 7 6 " + dogAt(steps) + ";").fits(0, 0), 3 * (steps - 1) + 9);
        }
        due("beyond every eye", logOf("stayed 7 6 " + dogAt(10) + ";").fits(0, 0), 36);
    }

    static void term4_one_step_two_steps_and_over_the_edge() {
        due("twice: bolters", logOf("twice 3 3 3 4 0;").fits(0, 0), 9);
        due("one step: ewes, rams", logOf("went 3 3 3 4 0;").fits(0, 0), 18);
        due("a bolter stopped by the edge went one step", logOf("went 7 1 6 1 0;").fits(0, 0), 27);
        due("twice over the edge is done by none", logOf("twice 7 1 6 1 0;").fits(0, 0), 0);
        due("once over the edge is done by none", logOf("went 7 0 6 0 0;").fits(0, 0), 0);
    }

    static void term4_a_log_is_of_a_fell_8_by_8_without_walls_and_pen() {
        DogNotary x = logOf("went 3 2 3 3 0;");
        Boundaries.tell(x, Boundaries.LOG, "twice 3 4 3 5 0;");
        Boundaries.tell(x, Boundaries.FELL, "size 5 5;pen 3 3;dog 0 0 1;ewe 1 1;ewe 3 2;wall 3 1;wall 4 2;");
        for (int b = 0; b < 2; b++) {
            due("a fell's beast " + b + " first", x.driven(0, b, 2) > 0 ? 1 : 0, 1);
            due("then by one step: ewes, rams", x.fits(0, 0), 18);
            due("by two steps: bolters", x.fits(1, 0), 9);
            due("and where they would go", x.would(1, 27, 35, 0), 11);
        }
        due("the last cell is there; a bolter goes on to the left", logOf("went 7 6 7 5 2;").fits(0, 0), 18);
    }

    static void term4_an_empty_log_and_a_full_one() {
        DogNotary all = logOf("");
        due("all fit", all.fits(0, 0), 36);
        for (int k = 0; k < 36; k++) {
            due("the k-th, " + k, all.fits(0, 10 + k), k);
        }
        due("one more", all.fits(0, 46), NO_SUCH);
        String seven = "stayed 0 0 7 7;".repeat(7);
        due("the eighth fact counts too", logOf(seven + "twice 3 3 3 4 0;").fits(0, 0), 9);
    }

    static void term4_sure_if_it_is_one_in_all() {
        String nine = "went 7 6 " + dogAt(9) + " 2;";
        DogNotary x = logOf(nine);
        due("an ewe or a bolter", x.fits(0, 1), NONE);
        due("its eye is 9", x.fits(0, 2), 9);
        DogNotary y = logOf("twice 3 3 3 4 0;");
        due("a bolter", y.fits(0, 1), 2);
        due("its eye is not one", y.fits(0, 2), NONE);
        DogNotary one = logOf(nine + "twice 3 3 3 4 0;");
        due("one fits", one.fits(0, 0), 1);
        due("its kind", one.fits(0, 1), 2);
        due("its eye", one.fits(0, 2), 9);
        DogNotary none = logOf("went 7 0 6 0 0;");
        due("of nothing that fits, no kind", none.fits(0, 1), NONE);
        due("of nothing that fits, no eye", none.fits(0, 2), NONE);
        DogNotary near = logOf("went 3 3 3 4 0;stayed 3 3 3 5;");
        due("an ewe by an eye of 1, and rams", near.fits(0, 10), 0);
        due("so no kind is sure", near.fits(0, 1), NONE);
        due("nor an eye", near.fits(0, 2), NONE);
        due("kind 0 is an answer", logOf(nine + "went 3 3 3 4 0;").fits(0, 1), 0);
        due("eye 1 is an answer", logOf("twice 3 3 3 4 0;stayed 3 3 3 5;").fits(0, 2), 1);
    }

    static void term4_ask_of_several_the_least() {
        // an ewe by an eye of 8 or 9: only from nine steps off they do not do the same
        DogNotary x = logOf("went 7 6 " + dogAt(8) + " 2;went 3 3 3 4 0;");
        due("two fit", x.fits(0, 0), 2);
        due("the least cell of those nine steps off", x.ask(0, 55), 4);
        due("no cell is nine steps off: the least", x.ask(0, 27), 0);
        due("in the first cell: the least that is another one", x.ask(0, 0), 1);
        due("in the last cell, where it stays", x.ask(0, 63), 0);
        DogNotary one = logOf("went 7 6 " + dogAt(9) + " 2;went 3 3 3 4 0;");
        due("one fits: the least", one.ask(0, 63), 0);
        due("one fits: the least that is another one", one.ask(0, 0), 1);
        due("nothing fits", logOf("went 7 0 6 0 0;").ask(0, 5), NONE);
    }

    static void term4_ask_counts_each_that_fits() {
        // rams, and the others by an eye of 7 at most; two steps off the rams and three more stay, which are twelve:
        // from above, twelve go to the last cell, six ewes and six bolters; from the right they go apart, so that is no better
        DogNotary x = logOf("stayed 0 5 5 2;");
        due("thirty fit", x.fits(0, 0), 30);
        due("the least of those two steps off", x.ask(0, 62), 46);
    }

    // ---- term 4: holding, fog ----

    /** He who has nothing to win by more holds out 0; so the rests are (0, y), y no less than a, and (x, 0), x no less than b or 9. */
    private static int[] rests(int a, int b) {
        int[] row = new int[20];
        int n = 0;
        if (b == 0) {
            row[n++] = 0;
        }
        for (int y = Math.max(1, a); y <= 9; y++) {
            row[n++] = y;
        }
        for (int x = 1; x <= 9; x++) {
            if (x >= b || x == 9) {
                row[n++] = 10 * x;
            }
        }
        return java.util.Arrays.copyOf(row, n);
    }

    static void term4_holding_by_all_worths() {
        for (int a = 0; a <= 20; a++) {
            DogNotary x = new DogNotary();
            for (int b = 0; b <= 20; b++) {
                int[] row = rests(a, b);
                due("how many by " + a + ", " + b, x.holding(a, b, NONE), row.length);
                due("the first by " + a + ", " + b, x.holding(a, b, 0), row[0]);
                due("the last by " + a + ", " + b, x.holding(a, b, row.length - 1), row[row.length - 1]);
                due("one more by " + a + ", " + b, x.holding(a, b, row.length), NONE);
            }
        }
    }

    static void term4_fog_worth_is_0_at_least() {
        // by five of ten: a half of w, a quarter of w less 1, and so on
        DogNotary x = new DogNotary();
        due("w 1, one day", x.fog(1, 5, 1, 0), 1);
        due("w 1, one day, D", x.fog(1, 5, 1, 1), 2);
        due("w 1, two days, the same", x.fog(1, 5, 2, 1), 2);
        due("w 2, two days: 2 / 2 and 1 / 4", x.fog(2, 5, 2, 0), 5);
        due("w 2, two days, D", x.fog(2, 5, 2, 1), 4);
        due("w 2, three days, the same", x.fog(2, 5, 3, 0), 5);
        due("w 2, nine days, the same", x.fog(2, 5, 9, 0), 5);
        due("w 0, nine days", x.fog(0, 5, 9, 0), 0);
        due("w 0, nine days, D", x.fog(0, 5, 9, 1), 1);
    }

    static void term4_fog_by_0_and_by_10_of_ten() {
        DogNotary x = new DogNotary();
        for (int n = 1; n <= 9; n += 4) {
            due("never fog, N", x.fog(20, 0, n, 0), 20);
            due("never fog, D", x.fog(20, 0, n, 1), 1);
            due("always fog, N", x.fog(20, 10, n, 0), 0);
            due("always fog, D", x.fog(20, 10, n, 1), 1);
        }
        // by nine of ten on nine days: the sum of 9 ^ i * (20 - i) * 10 ^ (8 - i), over 10 ^ 9
        long sum = 0;
        long nine = 1;
        for (int i = 0; i < 9; i++) {
            sum = sum * 10 + nine * (20 - i);
            nine *= 9;
        }
        due("the most, N", x.fog(20, 9, 9, 0), sum / 2);
        due("the most, D", x.fog(20, 9, 9, 1), 500000000L);
    }

    static void term4_soon_by_nine_of_ten_or_more() {
        DogNotary x = new DogNotary();
        // by 1 of ten it is just nine of ten on the first day
        int[] days = {1, 1, 2, 2, 3, 4, 5, 7, NONE, NONE, NONE};
        for (int p = 0; p <= 10; p++) {
            for (int n = 1; n <= 9; n += 8) {
                due("by " + p, x.fog(0, p, n, 2), days[p]);
                due("whatever it is worth, by " + p, x.fog(20, p, n, 2), days[p]);
            }
        }
    }

    // ---- term 5: drawn ----

    /** The dog alone on a fell 8 by 8, the pen in its first cell: minute, column, row, lies, back. */
    private static int[] drawnAlone(int seed, int n) {
        int[] own = {0, 1, 1, 0, 0};
        long x = seed & 0xffffffffL;
        for (int i = 0; i < n; i++) {
            x = x * 1103515245L + 12345L & 0xffffffffL;
            int sign = (int) (x / 65536 % 8);
            if (sign < 5) {
                x = x * 1103515245L + 12345L & 0xffffffffL;
                int way = (int) (x / 65536 % 4);
                int column = own[1] + (way == 1 ? 1 : way == 3 ? -1 : 0);
                int row = own[2] + (way == 2 ? 1 : way == 0 ? -1 : 0);
                if (column < 0 || column > 7 || row < 0 || row > 7 || column + row == 0) {
                    continue;
                }
                own = new int[] {own[0] + 1, column, row, 0, own[4]};
            } else if (sign == 7) {
                own = new int[] {own[0] + 1, own[1], own[2], own[3], 1 - own[4]};
            } else if (own[3] == sign - 5) {
                own = new int[] {own[0] + 1, own[1], own[2], 1 - own[3], own[4]};
            }
        }
        return own;
    }

    static void term5_drawn_by_seeds_that_wrap_around() {
        for (int seed : new int[] {Boundaries.LEAST, Boundaries.LEAST + 1, -65536, -1, 0, 1, 65535, Boundaries.GREATEST}) {
            DogNotary x = fellOf("size 8 8;");
            for (int n = 0; n <= 60; n++) {
                int[] wanted = drawnAlone(seed, n);
                String ahead = "seed " + seed + ", " + n + " times, ";
                due(ahead + "the minute", x.drawn(0, seed, n, 0), wanted[0]);
                due(ahead + "the cell", x.drawn(0, seed, n, 1), 8 * wanted[2] + wanted[1]);
                due(ahead + "lies", x.drawn(0, seed, n, 2), wanted[3]);
                due(ahead + "back", x.drawn(0, seed, n, 3), wanted[4]);
            }
        }
    }

    static void term5_drawn_0_to_60_times() {
        DogNotary x = fellOf("");
        due("-1 times", x.drawn(0, 1, -1, 0), NO_SUCH);
        due("0 times", x.drawn(0, 1, 0, 0), 0);
        due("60 times", x.drawn(0, 1, 60, 0) > NO_SUCH ? 1 : 0, 1);
        due("61 times", x.drawn(0, 1, 61, 0), NO_SUCH);
    }

    static void term5_drawn_each_if_it_may() {
        // he can go nowhere, so he lies and stands and turns alone
        DogNotary x = fellOf("size 2 2;wall 0 1;wall 1 0;");
        for (int n = 0; n <= 60; n++) {
            due("he stays", x.drawn(0, 5, n, 1), 3);
        }
    }

    static void term5_drawn_no_minute_behind_one_that_may_not_be() {
        // he can go nowhere: a minute goes by for each lie, stand, back that may be, and for no going
        DogNotary x = fellOf("size 2 2;wall 0 1;wall 1 0;");
        for (int seed = 1; seed <= 8; seed++) {
            long number = seed;
            int minutes = 0;
            boolean lies = false;
            for (int n = 1; n <= 60; n++) {
                number = number * 1103515245L + 12345L & 0xffffffffL;
                int sign = (int) (number / 65536 % 8);
                if (sign < 5) {
                    number = number * 1103515245L + 12345L & 0xffffffffL;
                } else if (sign == 7 || lies == (sign == 6)) {
                    minutes++;
                    lies = sign == 7 ? lies : sign == 5;
                }
                due("minutes by " + seed + ", " + n + " times", x.drawn(0, seed, n, 0), minutes);
            }
        }
    }

    // ---- term 6: middle, post, cornered ----

    static void term6_middle_of_several_the_least() {
        DogNotary x = fellOf("size 8 2;pen 0 1;dog 7 1 1;ewe 4 0;ewe 1 0;");
        due("from column 1 to 4 all are as good", x.middle(0, false), 1);
        due("steps", x.middle(0, true), 3);
        DogNotary last = fellOf("size 8 8;pen 0 0;dog 1 1 1;ewe 7 7;");
        due("the last cell", last.middle(0, false), 63);
        due("no steps", last.middle(0, true), 0);
        DogNotary far = fellOf("size 8 8;pen 3 3;dog 4 4 1;ewe 0 0;ewe 7 7;ewe 0 7;ewe 7 0;ewe 1 0;ewe 6 7;");
        due("six about the fell: column 1 to 6, row 0 to 7", far.middle(0, false), 1);
        due("their steps", far.middle(0, true), 40);
    }

    static void term6_middle_without_beasts() {
        due("the first cell", fellOf("").middle(0, false), 0);
        due("no steps", fellOf("").middle(0, true), 0);
        due("the first one without a wall", fellOf("pen 5 5;wall 0 0;wall 1 0;").middle(0, false), 2);
    }

    static void term6_middle_is_no_wall_but_may_be_taken() {
        String three = "ewe 1 0;ewe 0 1;ewe 2 1;";
        due("the pen", fellOf("size 3 3;pen 1 1;dog 2 2 1;" + three).middle(0, false), 4);
        due("the dog's cell", fellOf("size 3 3;pen 2 2;dog 1 1 1;" + three).middle(0, false), 4);
        due("a beast's", fellOf("size 3 3;pen 2 2;dog 0 0 1;ewe 1 1;" + three).middle(0, false), 4);
        due("steps", fellOf("size 3 3;pen 2 2;dog 0 0 1;ewe 1 1;" + three).middle(0, true), 3);
        DogNotary wall = fellOf("size 3 3;pen 2 2;dog 0 0 1;wall 1 1;" + three);
        due("a wall is none", wall.middle(0, false), 1);
        due("one step more", wall.middle(0, true), 4);
    }

    /** The top row is a lane of eight cells, the pen under its first one. */
    private static String openLane(int eye, String beasts) {
        return "size 8 2;pen 0 1;dog 0 0 " + eye + ";" + beasts + LANE_WALLS.substring("wall 0 1;".length()) + "wall 7 1;";
    }

    static void term6_post_by_the_eye() {
        for (int eye = 1; eye <= 9; eye++) {
            DogNotary x = fellOf(openLane(eye, "ewe 6 0;"));
            due("to the right by " + eye, x.post(0, 0, 1, false), Math.max(0, 6 - eye));
            due("how many", x.post(0, 0, 1, true), Math.min(6, eye));
            due("to the left by " + eye, x.post(0, 0, 3, false), 7);
            due("how many", x.post(0, 0, 3, true), 1);
            DogNotary ram = fellOf(openLane(eye, "ram 6 0;"));
            due("a ram by " + eye, ram.post(0, 0, 1, false), 5);
            due("how many", ram.post(0, 0, 1, true), 1);
            DogNotary goose = fellOf(openLane(eye, "goose 6 0;"));
            due("a goose to the left by " + eye, goose.post(0, 0, 3, false), eye < 2 ? NONE : Math.max(0, 6 - eye));
            due("how many", goose.post(0, 0, 3, true), Math.max(0, Math.min(6, eye) - 1));
        }
    }

    static void term6_post_none() {
        DogNotary x = fellOf(openLane(9, "ewe 6 0;"));
        for (int d = 0; d <= 2; d += 2) {
            due("none by " + d, x.post(0, 0, d, false), NONE);
            due("no number by " + d, x.post(0, 0, d, true), 0);
        }
    }

    static void term6_post_not_a_wall_the_pen_a_beasts() {
        // about the ewe in the middle of 3 by 3 each cell but one is taken
        String ahead = "size 3 3;ewe 1 1;wall 0 0;wall 2 0;wall 0 2;wall 2 2;";
        DogNotary pen = fellOf(ahead + "pen 1 0;dog 0 1 1;wall 2 1;wall 1 2;");
        due("from the pen she would go down", pen.post(0, 0, 2, false), NONE);
        due("into the pen", pen.post(0, 0, 0, false), 3);
        DogNotary beast = fellOf(ahead + "pen 1 2;dog 0 1 1;wall 2 1;ram 1 0;");
        due("from the ram's cell she would go down, as from the dog's", beast.post(0, 0, 2, true), 1);
        due("the dog's own cell is one", beast.post(0, 0, 2, false), 3);
    }

    static void term6_post_of_a_bolter_by_its_first_step() {
        // up, and then right, as the wall bars a second step up
        DogNotary x = fellOf("size 4 4;pen 0 0;dog 1 3 1;bolter 1 2;wall 1 0;");
        due("up, from under it, from the left, from the right", x.post(0, 0, 0, true), 3);
        due("to the right, from above it", x.post(0, 0, 1, false), 5);
        due("the least of three", x.post(0, 0, 0, false), 8);
        due("its second step is to the right", x.shy(0, 0), 6);
    }

    static void term6_cornered_none_and_all() {
        due("without beasts", fellOf("").cornered(0), 0);
        String six = "ewe 0 0;ewe 2 0;ewe 4 0;ewe 6 0;ewe 0 7;ewe 2 7;wall 3 0;wall 5 0;wall 7 0;wall 0 1;wall 2 1;"
            + "wall 4 1;wall 6 1;wall 1 7;wall 3 7;wall 0 6;wall 2 6;pen 7 7;";
        due("all six", fellOf("size 8 8;dog 7 6 9;wall 1 0;" + six).cornered(0), 63);
        // the cell between the first two is open: from two steps off he sees them go there
        due("by an eye of 1", fellOf("size 8 8;dog 7 6 1;" + six).cornered(0), 63);
        due("by an eye of 2", fellOf("size 8 8;dog 7 6 2;" + six).cornered(0), 60);
        due("by an eye of 9", fellOf("size 8 8;dog 7 6 9;" + six).cornered(0), 60);
    }

    static void term6_cornered_in_a_lane() {
        String shut = "size 4 2;pen 3 1;dog 3 0 9;ewe 0 0;wall 0 1;wall 1 1;wall 2 1;";
        due("he is never behind either", fellOf(shut + "ewe 1 0;").cornered(0), 3);
        due("the one at the end, alone", fellOf(shut).cornered(0), 1);
        due("with room to go, away from him", fellOf(shut.replace("ewe 0 0", "ewe 1 0")).cornered(0), 0);
    }

    static void term6_cornered_wherever_he_stood() {
        due("he can stand in the first cell alone, and drives it", fellOf("size 3 2;pen 2 0;dog 0 0 1;ewe 1 0;wall 0 1;wall 1 1;wall 2 1;").cornered(0), 0);
        due("in the last cell alone, and drives it", fellOf("size 2 3;pen 1 0;dog 1 2 1;ewe 1 1;wall 0 0;wall 0 1;wall 0 2;").cornered(0), 0);
        due("he drives the last of two alone", fellOf("size 4 2;pen 3 0;dog 0 1 9;ewe 1 0;ewe 2 0;wall 0 0;wall 1 1;wall 2 1;").cornered(0), 1);
    }

    // ---- term 6: lined, greedy ----

    static void term6_lined_by_steps() {
        DogNotary x = fellOf("size 8 2;pen 7 0;dog 0 1 1;ewe 1 0;ewe 2 0;ewe 3 0;ewe 4 0;ewe 5 0;ewe 6 0;");
        DogNotary y = fellOf("size 8 2;pen 0 0;dog 0 1 1;ewe 1 0;ewe 2 0;ewe 3 0;ewe 4 0;ewe 5 0;ewe 6 0;");
        for (int k = 0; k < 6; k++) {
            due("the last one first, " + k, x.lined(0, k), 5 - k);
            due("the first one first, " + k, y.lined(0, k), k);
        }
    }

    static void term6_lined_of_several_the_least_number() {
        DogNotary x = fellOf("size 5 5;pen 2 2;dog 0 0 1;ewe 2 4;ewe 1 2;ewe 4 2;ewe 2 1;ewe 2 0;ewe 0 2;");
        int[] row = {1, 3, 0, 2, 4, 5};
        for (int k = 0; k < 6; k++) {
            due("the k-th, " + k, x.lined(0, k), row[k]);
        }
    }

    static void term6_lined_those_that_never_come_at_the_end() {
        // the walls part the lane behind column 3
        DogNotary x = fellOf(lane(0, 1, "ewe 2 0;ewe 6 0;ewe 1 0;ewe 5 0;") + "wall 3 0;");
        int[] row = {1, 3, 0, 2};
        for (int k = 0; k < 4; k++) {
            due("the k-th, " + k, x.lined(0, k), row[k]);
        }
        DogNotary none = fellOf(lane(0, 1, "ewe 5 0;ewe 3 0;ewe 4 0;") + "wall 6 0;");
        for (int k = 0; k < 3; k++) {
            due("none ever comes: by numbers, " + k, none.lined(0, k), k);
        }
    }

    static void term6_lined_by_walking_and_not_by_columns_and_rows() {
        // two columns off, but behind a wall; the other one is five columns off
        DogNotary x = fellOf("size 8 8;pen 2 0;dog 7 7 1;ewe 0 0;ewe 7 0;wall 1 0;wall 1 1;wall 1 2;");
        due("the farther one comes first", x.lined(0, 0), 1);
        DogNotary y = fellOf("size 8 8;pen 2 0;dog 7 7 1;ewe 0 0;ewe 7 0;wall 1 0;");
        due("by a shorter wall the nearer one does", y.lined(0, 0), 0);
    }

    static void term6_greedy_0_to_40_times() {
        DogNotary x = fellOf(lane(0, 1, "ewe 2 0;"));
        for (int n = 0; n <= 40; n++) {
            due("steps behind " + n, x.greedy(0, n, 1), Math.max(0, 5 - n));
            due("penned behind " + n, x.greedy(0, n, 0), n < 5 ? 0 : 1);
            // then right is as good as left, and less, if he is not next to the pen
            due("the dog behind " + n, x.greedy(0, n, 2), n < 5 ? n : n % 2 == 1 ? 5 : 6);
        }
    }

    static void term6_greedy_by_the_fewest_steps_whatever_the_direction() {
        // three lanes in which he could go away from the ewe by a lesser direction, or by a greater one
        String down = "size 2 8;pen 0 7;dog 0 1 1;ewe 0 3;wall 1 0;wall 1 1;wall 1 2;wall 1 3;wall 1 4;wall 1 5;wall 1 6;wall 1 7;";
        String left = "size 8 2;pen 0 0;dog 6 0 1;ewe 4 0;wall 0 1;wall 7 1;" + LANE_WALLS;
        String up = "size 2 8;pen 0 0;dog 0 6 1;ewe 0 4;wall 1 0;wall 1 1;wall 1 2;wall 1 3;wall 1 4;wall 1 5;wall 1 6;wall 1 7;";
        for (int n = 0; n <= 4; n++) {
            due("down behind " + n, fellOf(down).greedy(0, n, 1), 4 - n);
            due("left behind " + n, fellOf(left).greedy(0, n, 1), 4 - n);
            due("up behind " + n, fellOf(up).greedy(0, n, 1), 4 - n);
        }
        due("penned", fellOf(left).greedy(0, 4, 0), 1);
    }

    static void term6_greedy_if_he_cant_go_no_more() {
        DogNotary x = fellOf(lane(0, 9, "ewe 1 0;"));
        due("she is in his way", x.greedy(0, 40, 2), 0);
        due("no minute goes by", x.greedy(0, 40, 1), 6);
        due("none is penned", x.greedy(0, 40, 0), 0);
        DogNotary y = fellOf("size 6 2;pen 5 1;dog 1 0 9;goose 3 0;wall 0 1;wall 1 1;wall 2 1;wall 3 1;wall 4 1;");
        due("to the right, where the goose stays as near to the pen as it is", y.greedy(0, 1, 2), 2);
        due("then back, as he can go nowhere else", y.greedy(0, 2, 2), 1);
    }

    static void term6_greedy_of_several_the_least_direction() {
        DogNotary x = fellOf("size 5 5;pen 4 4;dog 2 2 1;");
        int[] cells = {12, 7, 2, 3, 4, 9, 4};
        for (int n = 0; n < cells.length; n++) {
            due("without beasts up, then right, then down, behind " + n, x.greedy(0, n, 2), cells[n]);
        }
        due("no steps", x.greedy(0, 6, 1), 0);
    }

    // ---- term 6: caught, spread, thrice, stir ----

    static void term6_caught_the_least_n() {
        String fell = lane(0, 1, "ewe 2 0;");
        String lies = "lie;stand;".repeat(17);
        due("by the fifth", drive(fell, "go 1;".repeat(5)).caught(0, 0, 0), 5);
        due("by four not", drive(fell, "go 1;".repeat(4)).caught(0, 0, 0), NONE);
        due("the least, though there are more", drive(fell, "go 1;".repeat(5) + "back;back;").caught(0, 0, 0), 5);
        due("by the fortieth", drive(fell, lies + "lie;" + "go 1;".repeat(5)).caught(0, 0, 0), 40);
        due("by forty not", drive(fell, lies + "lie;back;" + "go 1;".repeat(4)).caught(0, 0, 0), NONE);
        due("by forty that can all be not", drive(fell, "back;".repeat(40)).caught(0, 0, 0), NONE);
        due("by no whistles not", drive(fell, "").caught(0, 0, 0), NONE);
        due("by the first", drive(lane(4, 1, "ewe 6 0;"), "go 1;").caught(0, 0, 0), 1);
        DogNotary x = drive(fell, "go 1;".repeat(5));
        due("four in the place of five", Boundaries.tellInPlace(x, Boundaries.DRIVE, 0, "go 1;".repeat(4)), 0);
        due("by those not", x.caught(0, 0, 0), NONE);
    }

    static void term6_caught_behind_end_not() {
        String fell = lane(0, 1, "ewe 2 0;");
        due("the whistle behind it can't be", drive(fell, "go 1;".repeat(5) + "stand;").caught(0, 0, 0), 5);
        due("the one ahead of it can't be", drive(fell, "go 1;".repeat(4) + "stand;go 1;").caught(0, 0, 0), NONE);
    }

    static void term6_spread_the_most_steps_between_two() {
        due("all the fell", drive("size 8 8;pen 0 7;dog 3 3 1;ewe 7 7;ewe 0 0;", "").spread(0, 0, 0), 14);
        due("next to each other", drive("size 8 8;pen 0 7;dog 3 3 1;ewe 7 7;ewe 6 7;", "").spread(0, 0, 0), 1);
        due("the last two of six", drive("size 8 2;pen 0 1;dog 7 1 1;ewe 2 0;ewe 3 0;ewe 4 0;ewe 5 0;ewe 0 0;ewe 7 0;", "").spread(0, 0, 0), 7);
        due("the first and the last", drive("size 8 2;pen 0 1;dog 7 1 1;ewe 0 0;ewe 3 0;ewe 7 0;", "").spread(0, 0, 0), 7);
    }

    static void term6_spread_of_those_that_are_penned() {
        DogNotary x = drive(lane(3, 2, "ewe 6 0;ewe 5 0;"), "go 1;back;back;go 1;");
        int[] penned = {0, 1, 1, 3, 3};
        int[] wanted = {1, 1, 1, 0, 0};
        for (int n = 0; n < wanted.length; n++) {
            due("penned behind " + n, x.state(0, 0, n, 4), penned[n]);
            due("spread behind " + n, x.spread(0, 0, n), wanted[n]);
        }
    }

    static void term6_thrice_0_to_3_times() {
        int[] ones = {1, 2, 3, 3, 3, 3, 3};
        int[] twos = {0, 1, 1, 2, 2, 3, 3};
        for (int wide = 2; wide <= 8; wide++) {
            String fell = "size " + wide + " 2;pen 0 1;dog 0 0 1;";
            due("one to the right by " + wide, drive(fell, "go 1;").thrice(0, 0), ones[wide - 2]);
            due("two to the right by " + wide, drive(fell, "go 1;go 1;").thrice(0, 0), twos[wide - 2]);
        }
        due("no whistles", drive("", "").thrice(0, 0), 3);
        due("forty", drive("", "back;".repeat(40)).thrice(0, 0), 3);
        due("forty but the last", drive("", "back;".repeat(39) + "stand;").thrice(0, 0), 0);
    }

    static void term6_thrice_from_where_all_are_by_then() {
        due("he lies", drive("", "back;lie;").thrice(0, 0), 1);
        due("he stands again", drive("", "lie;stand;").thrice(0, 0), 3);
        // the ewe goes on one cell each time; the third time there is none left for him
        due("behind the ewe", drive(openLane(1, "ewe 5 0;").replace("dog 0 0", "dog 4 0"), "back;back;go 1;").thrice(0, 0), 2);
    }

    static void term6_stir_of_several_the_least() {
        due("without beasts: the first cell he may be in", fellOf("").stir(0, false), 1);
        due("none goes", fellOf("").stir(0, true), 0);
        due("the dog's own cell alone", fellOf("size 2 2;wall 0 1;wall 1 0;").stir(0, false), 3);
        for (int eye = 1; eye <= 9; eye++) {
            DogNotary x = fellOf(openLane(eye, "ewe 6 0;"));
            due("the least by " + eye, x.stir(0, false), Math.max(0, 6 - eye));
            due("one goes by " + eye, x.stir(0, true), 1);
        }
    }

    static void term6_stir_one_behind_the_other() {
        String six = "size 8 2;pen 7 1;dog 0 0 9;ewe 6 0;ewe 5 0;ewe 4 0;ewe 3 0;ewe 2 0;ewe 1 0;" + LANE_WALLS;
        due("all six go", fellOf(six).stir(0, true), 6);
        due("from behind them", fellOf(six).stir(0, false), 0);
        due("the front one is beyond his eye, so none has room", fellOf(six.replace("0 0 9", "0 0 5")).stir(0, true), 0);
        String other = "size 8 2;pen 7 1;dog 0 0 9;ewe 1 0;ewe 2 0;ewe 3 0;ewe 4 0;ewe 5 0;ewe 6 0;" + LANE_WALLS;
        due("the first by numbers has no room to the right, the last one has", fellOf(other).stir(0, false), 7);
        due("from the right all go left", fellOf(other).stir(0, true), 6);
    }

    static void term6_stir_not_a_wall_the_pen_a_beasts() {
        due("from the pen she would go", fellOf("size 3 2;pen 0 0;dog 2 1 1;ewe 1 0;wall 0 1;wall 1 1;").stir(0, false), 2);
        due("so one goes, to the pen", fellOf("size 3 2;pen 0 0;dog 2 1 1;ewe 1 0;wall 0 1;wall 1 1;").stir(0, true), 1);
        due("from a wall she would go", fellOf("size 3 2;pen 0 1;dog 2 1 1;ewe 1 0;wall 0 0;wall 1 1;").stir(0, true), 0);
    }

    // ---- term 6: dear, idle, run, would, reply ----

    static void term6_dear_how_much_less() {
        DogNotary x = bookOf("dog 9 1;dog 9 1;dog 1 0;dog 1 3;bargain 5 40;bargain 9 7;bargain 9 1;bargain 1 0;");
        int[] wanted = {7, 7, 0, 0};
        for (int d = 0; d < 4; d++) {
            due("dear " + d, x.dear(0, d), wanted[d]);
        }
        due("all there is", bookOf("dog 9 3;bargain 9 99;bargain 9 99;bargain 9 99;").dear(0, 0), 297);
        due("no bargains", bookOf("dog 9 3;").dear(0, 0), 0);
    }

    static void term6_idle_none_and_all() {
        due("no dogs", bookOf("bargain 1 1;").idle(0), 0);
        due("no bargains", bookOf("dog 1 1;".repeat(5)).idle(0), 31);
        due("each has one", bookOf("dog 1 1;".repeat(5) + "bargain 1 0;".repeat(5)).idle(0), 0);
        due("the last has none", bookOf("dog 1 1;".repeat(5) + "bargain 1 0;".repeat(4)).idle(0), 16);
        due("no turns", bookOf("dog 1 0;dog 1 3;bargain 1 1;").idle(0), 1);
        due("the first row by numbers", bookOf("dog 1 3;dog 1 3;bargain 1 1;").idle(0), 2);
    }

    static void term6_run_of_several_the_least() {
        DogNotary x = bookOf("field 1;field 3;field 2;field 3;field 2;field 0;");
        int[] first = {1, 1, 1, 1, 0, 0};
        int[] worth = {3, 5, 8, 10, 11, 11};
        for (int m = 1; m <= 6; m++) {
            due("the first of " + m, x.run(0, m, false), first[m - 1]);
            due("the worth of " + m, x.run(0, m, true), worth[m - 1]);
        }
        DogNotary last = bookOf("field 0;".repeat(9) + "field 99;");
        for (int m = 1; m <= 10; m++) {
            due("with the last one, " + m, last.run(0, m, false), 10 - m);
            due("its worth, " + m, last.run(0, m, true), 99);
        }
        due("worth nothing", bookOf("field 0;field 0;").run(0, 1, false), 0);
        due("worth nothing, how much", bookOf("field 0;field 0;").run(0, 1, true), 0);
    }

    static void term6_would_of_the_kth() {
        // ewes by an eye of 8 or 9
        DogNotary x = logOf("went 7 6 " + dogAt(8) + " 2;went 3 3 3 4 0;");
        due("the one by 8, nine steps off", x.would(0, 55, 4, 0), 55);
        due("the one by 9, nine steps off", x.would(0, 55, 4, 1), 63);
        due("a third one", x.would(0, 55, 4, 2), NONE);
        DogNotary all = logOf("");
        int[] ends = {27, 27, 19, 27, 27, 11, 27, 27, 28};
        int[] which = {0, 9, 1, 10, 17, 19, 18, 27, 35};
        for (int i = 0; i < which.length; i++) {
            due("of all, " + which[i], all.would(0, 27, i == 2 || i == 5 ? 43 : 29, which[i]), ends[i]);
        }
        due("of all, one more", all.would(0, 27, 29, 36), NONE);
    }

    static void term6_reply_by_all_worths() {
        DogNotary x = new DogNotary();
        for (int worth = 0; worth <= 20; worth++) {
            for (int y = 0; y <= 9; y++) {
                due("reply to " + y + " by " + worth, x.reply(worth, y), worth > y ? y : 0);
            }
        }
    }
}
