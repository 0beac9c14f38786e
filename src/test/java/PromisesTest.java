/** Promise by promise: ordinary inputs, the edges that the document names, and wrong inputs, all reckoned by hand. */
public final class PromisesTest {
    private static final int NONE = -1;
    private static final String MIXED =
        "size 4 3;wall 2 1;pen 3 2;dog 0 0 3;ewe 1 1;ram 1 0;bolter 2 0;goose 0 2;";
    private static final String MIXED_DRIVE = "lie;stand;go 1;back;go 2;back;lie;go 2;stand;";
    private static final String SMALL = "size 3 2;pen 2 1;dog 0 0 1;ewe 1 1;";
    private static final String STUCK = "size 2 2;dog 1 1 9;wall 1 0;goose 0 1;";
    private static final String BOOK = "dog 5 1;dog 3 2;bargain 4 10;bargain 2 7;bargain 5 9;bargain 1 3;"
        + "field 4;field 1;field 5;field 2;field 3;";
    private static final String LOG = "went 3 3 3 4 0;stayed 3 3 3 6;";

    private static int wrong = 0;
    private static int right = 0;

    private static void due(String call, long got, long want) {
        if (got == want) {
            right++;
        } else {
            wrong++;
            System.out.println(call + " answered " + got + ", due is " + want);
        }
    }

    private static void due(String call, boolean got, boolean want) {
        due(call, got ? 1 : 0, want ? 1 : 0);
    }

    static void feedAll(DogNotary x, String s) {
        int had = NONE;
        for (int i = 0; i < s.length(); i += 20) {
            int[] five = new int[5];
            for (int k = 0; k < 20; k++) {
                five[k / 4] = five[k / 4] << 8 | (i + k < s.length() ? s.charAt(i + k) : 32);
            }
            int has = x.feed(five[0], five[1], five[2], five[3], five[4]);
            had = had == NONE ? has - 20 : had;
        }
        if (had != NONE) {
            x.end(had + s.length());
        }
    }

    static int say(DogNotary x, int sort, String s) {
        feedAll(x, s);
        return x.text(sort, NONE);
    }

    private static DogNotary with(int sort, String... texts) {
        DogNotary x = new DogNotary();
        for (String s : texts) {
            due("a sound text: " + s, say(x, sort, s) >= 0, true);
        }
        return x;
    }

    private static void faultOf(int sort, String s, int fault, int place) {
        DogNotary x = new DogNotary();
        due("text of '" + s + "'", say(x, sort, s), fault == 0 ? 0 : NONE);
        due("fault(0) of '" + s + "'", x.fault(0), fault);
        due("fault(1) of '" + s + "'", x.fault(1), place);
        due("count of '" + s + "'", x.count(sort), fault == 0 ? 1 : 0);
    }

    public static void main(String[] args) {
        newObject();
        feedAndEnd();
        texts();
        faultsOfWords();
        textsThatWereCut();
        faultsOfNumbers();
        faultsOfLimits();
        faultsOfFells();
        fells();
        whistles();
        states();
        edgesOfWhistles();
        shy();
        drivenAndHeard();
        safeAndNearest();
        books();
        notariesEdges();
        parted();
        logs();
        asksAndWoulds();
        holdings();
        fogs();
        drawn();
        middles();
        posts();
        lines();
        greedy();
        caughtAndSpread();
        thrice();
        stirs();
        images();
        System.out.println(wrong == 0 ? "PromisesTest: all " + right + " answers are as due" : "PromisesTest: " + wrong + " wrong");
        if (wrong != 0) {
            System.exit(1);
        }
    }

    private static void newObject() {
        DogNotary x = new DogNotary();
        due("NONE", DogNotary.NONE, -1);
        for (int sort = 0; sort < 4; sort++) {
            due("count(" + sort + ") of a new object", x.count(sort), 0);
        }
        due("count(4)", x.count(4), -2);
        due("count(-1)", x.count(-1), -2);
        due("fault(0) at first", x.fault(0), 0);
        due("fault(1) at first", x.fault(1), NONE);
        due("fault(2)", x.fault(2), NONE);
        due("fault(-1)", x.fault(-1), NONE);
        for (int k = -1; k <= 3; k++) {
            due("again(" + k + ") of a new object", x.again(k), false);
        }
        due("end(0) of a new object", x.end(0), 0);
        due("end(1) of a new object", x.end(1), NONE);
        due("fell(0, 0)", x.fell(0, 0), NONE);
        due("whistle(0, NONE, 0)", x.whistle(0, NONE, 0), -2);
        due("till(0, 0)", x.till(0, 0), NONE);
        due("state(0, 0, 0, 0)", x.state(0, 0, 0, 0), -2);
        due("safe(0, false)", x.safe(0, false), -2);
        due("safe(0, true)", x.safe(0, true), -2);
        due("book(0, 0)", x.book(0, 0), NONE);
        due("fact(0, NONE, 0)", x.fact(0, NONE, 0), -2);
        due("fits(0, 0)", x.fits(0, 0), -2);
        due("drawn(0, 0, 0, 0)", x.drawn(0, 0, 0, 0), -2);
        due("post(0, 0, 0, true)", x.post(0, 0, 0, true), -2);
    }

    private static void feedAndEnd() {
        DogNotary x = new DogNotary();
        for (int i = 1; i <= 30; i++) {
            due("feed no. " + i, x.feed(0, 0, 0, 0, 0), 20 * i);
        }
        due("feed beyond 600", x.feed(0, 0, 0, 0, 0), NONE);
        due("end(601)", x.end(601), NONE);
        due("end(600)", x.end(600), 600);
        due("end(-1)", x.end(-1), NONE);
        due("end(581)", x.end(581), 581);
        due("feed beyond 600 again", x.feed(0, 0, 0, 0, 0), NONE);
        due("end(582) when it has 581", x.end(582), NONE);
        due("end(580)", x.end(580), 580);
        due("feed up to 600", x.feed(0, 0, 0, 0, 0), 600);
        due("end(3)", x.end(3), 3);
        due("end(4)", x.end(4), NONE);
        x.end(0);
        // "lie;" "lie;" from the highest byte on
        x.feed(0x6c69653b, 0x6c69653b, 0x20202020, 0x0a0a0a0a, 0x20202020);
        due("text by bytes", x.text(1, NONE), 0);
        due("its whistles", x.whistle(0, NONE, 0), 2);
    }

    private static void texts() {
        DogNotary x = new DogNotary();
        due("an empty text", x.text(0, NONE), 0);
        due("a second one", say(x, 0, "size 2 3;"), 1);
        refused(x, "a third fell", 0, NONE);
        refused(x, "no such sort", 4, NONE);
        refused(x, "no such sort below", -1, NONE);
        refused(x, "in the place of none", 1, 0);
        refused(x, "in the place of -2", 0, -2);
        refused(x, "in the place of a third", 0, 2);
        due("no drive came of them", x.count(1), 0);
        due("a drive", say(x, 1, "lie;"), 0);
        due("the tape is empty then", x.end(1), NONE);
        feedAll(x, "size 9 9;");
        due("a fault in the place of one", x.text(0, 1), NONE);
        due("the fault", x.fault(0), 2);
        due("the tape is empty behind a fault", x.end(1), NONE);
        due("the old one is still there", x.fell(1, 1), 3);
        due("-2 has no fault", x.text(9, 0), -2);
        due("fault(0) behind -2", x.fault(0), 0);
        due("fault(1) behind -2", x.fault(1), NONE);
        feedAll(x, "size 8 7;");
        due("in the place of one", x.text(0, 1), 1);
        due("its width", x.fell(1, 0), 8);
        due("the other one's", x.fell(0, 0), 6);
        due("fells", x.count(0), 2);
        due("drives", x.count(1), 1);
        for (int sort = 1; sort < 4; sort++) {
            while (x.count(sort) < 2) {
                due("a further one of sort " + sort, x.text(sort, NONE), x.count(sort) - 1);
            }
            due("too many of sort " + sort, x.text(sort, NONE), -2);
        }
    }

    // A text that is not read takes the tape all the same.
    private static void refused(DogNotary x, String what, int sort, int at) {
        due(what + ": a fault ahead of it", say(x, 3, "lie"), NONE);
        feedAll(x, "lie;");
        due(what, x.text(sort, at), -2);
        due(what + ": fault(0)", x.fault(0), 0);
        due(what + ": fault(1)", x.fault(1), NONE);
        due(what + ": the tape is empty then", x.end(1), NONE);
        due(what + ": and is fed from its beginning", x.feed(0, 0, 0, 0, 0), 20);
        x.end(0);
    }

    private static void faultsOfWords() {
        faultOf(0, "", 0, NONE);
        faultOf(0, "  \n ", 0, NONE);
        faultOf(0, "\n size\n3 3 ; ", 0, NONE);
        faultOf(0, "ewe3 03;ewe04 4;", 0, NONE);
        faultOf(0, "size 3 3", 1, 8);
        faultOf(0, "size 3 3  ", 1, 10);
        faultOf(0, "size 3;", 1, 6);
        faultOf(0, "size 3 3 3;", 1, 9);
        faultOf(0, "sizes 3 3;", 1, 0);
        faultOf(0, " siz 3 3;", 1, 1);
        faultOf(0, ";", 1, 0);
        faultOf(0, "size 3 3;;", 1, 9);
        faultOf(0, "size 3 3;#", 1, 9);
        faultOf(0, "size 3#3;", 1, 6);
        faultOf(0, "Size 3 3;", 1, 0);
        faultOf(0, "size\t3 3;", 1, 4);
        faultOf(0, "size 3 \u00e9;", 1, 7);
        faultOf(0, "go 1;", 1, 0);
        faultOf(0, "3;", 1, 0);
        faultOf(0, "size 100 3;", 1, 5);
        faultOf(0, "size 3 003;", 1, 7);
        faultOf(0, "size 9 9;x", 1, 9);
        faultOf(0, "dog 2 2;", 1, 7);
        faultOf(0, "ewe 2 2 2;", 1, 8);
        faultOf(1, "lie 1;", 1, 4);
        faultOf(1, "go;", 1, 2);
        faultOf(1, "go 1 lie;", 1, 5);
        faultOf(1, "go 1lie;", 1, 4);
        faultOf(1, "dog 1 1;", 1, 0);
        faultOf(1, "lie", 1, 3);
        faultOf(2, "field 100;", 1, 6);
        faultOf(2, "dog 1 1 1;", 1, 8);
        faultOf(2, "wall 1 1;", 1, 0);
        faultOf(3, "stayed 0 0 0 1 1;", 1, 15);
        faultOf(3, "went 0 0 0 1;", 1, 12);
        faultOf(3, "go 1;", 1, 0);
    }

    /** What was struck off the tape is no part of a text, though it would go on with it. */
    private static void textsThatWereCut() {
        String[] all = {"go 12;", "lie;", "stand;", "go 1;"};
        int[] cuts = {4, 2, 5, 4};
        int[][] faults = {{1, 4}, {1, 0}, {1, 5}, {1, 4}};
        for (int i = 0; i < all.length; i++) {
            DogNotary x = new DogNotary();
            feedAll(x, all[i]);
            due("cut '" + all[i] + "'", x.end(cuts[i]), cuts[i]);
            due("text of cut '" + all[i] + "'", x.text(1, NONE), NONE);
            due("its fault", x.fault(0), faults[i][0]);
            due("its place", x.fault(1), faults[i][1]);
        }
    }

    private static void faultsOfNumbers() {
        faultOf(0, "size 9 2;", 2, 5);
        faultOf(0, "size 2 1;", 2, 7);
        faultOf(0, "size 8 8;size 2 2;", 0, NONE);
        faultOf(0, "wall 8 0;", 2, 5);
        faultOf(0, "ewe 0 8;", 2, 6);
        faultOf(0, "pen 99 8;", 2, 4);
        faultOf(0, "dog 2 2 0;", 2, 8);
        faultOf(0, "dog 2 2 9;", 0, NONE);
        faultOf(0, "dog 2 2 10;", 2, 8);
        faultOf(1, "go 4;", 2, 3);
        faultOf(1, "go 3;go 0;", 0, NONE);
        faultOf(2, "dog 0 1;", 2, 4);
        faultOf(2, "dog 9 3;", 0, NONE);
        faultOf(2, "dog 1 4;", 2, 6);
        faultOf(2, "bargain 10 0;", 2, 8);
        faultOf(2, "bargain 0 0;", 2, 8);
        faultOf(2, "bargain 9 99;field 99;field 0;", 0, NONE);
        faultOf(3, "went 3 3 3 3 0;", 2, 11);
        faultOf(3, "went 3 3 3 3 4;", 2, 11);
        faultOf(3, "went 3 3 3 4 4;", 2, 13);
        faultOf(3, "stayed 8 0 0 0;", 2, 7);
        faultOf(3, "stayed 8 0 8 0;", 2, 7);
        faultOf(3, "twice 0 0 0 1 4;", 2, 14);
        faultOf(3, "stayed 7 7 7 6;", 0, NONE);
        faultOf(3, "stayed 0 0 0 8;", 2, 13);
        faultOf(3, "stayed 0 0 8 0;", 2, 11);
        faultOf(3, "stayed 0 8 0 0;", 2, 9);
        faultOf(3, "stayed 0 8 0 8;", 2, 9);
        faultOf(0, "size 9 2;ewe 9 9;", 2, 5);
    }

    private static void faultsOfLimits() {
        String ewes = "ewe 2 0;ram 3 0;goose 4 0;bolter 5 0;ewe 2 1;ewe 3 1;";
        faultOf(0, ewes, 0, NONE);
        faultOf(0, ewes + "ram 9 9;", 3, ewes.length());
        faultOf(0, "ewe 0 0;".repeat(7), 3, 48);
        faultOf(0, "ewe 0 9;" + "ewe 0 0;".repeat(6), 2, 6);
        faultOf(0, "wall 5 5;".repeat(9), 0, NONE);
        faultOf(1, "lie;".repeat(40), 0, NONE);
        faultOf(1, "lie;".repeat(41), 3, 160);
        faultOf(1, "lie;".repeat(41) + "!", 1, 164);
        faultOf(2, "dog 1 0;".repeat(5), 0, NONE);
        faultOf(2, "dog 1 0;".repeat(6), 3, 40);
        faultOf(2, "bargain 1 0;".repeat(8), 0, NONE);
        faultOf(2, "bargain 1 0;".repeat(9), 3, 96);
        faultOf(2, "field 0;".repeat(10), 0, NONE);
        faultOf(2, "field 0;".repeat(11) + "dog 0 0;", 3, 80);
        faultOf(3, "stayed 0 0 0 1;".repeat(8), 0, NONE);
        faultOf(3, "stayed 0 0 0 1;".repeat(9), 3, 120);
    }

    private static void faultsOfFells() {
        faultOf(0, "ewe 6 0;", 4, 8);
        faultOf(0, "wall 0 6;", 4, 9);
        faultOf(0, "pen 7 7; ", 4, 9);
        faultOf(0, "dog 2 7 1;", 4, 10);
        faultOf(0, "pen 7 7;size 8 8;", 0, NONE);
        faultOf(0, "wall 0 0;ewe 7 7;", 4, 17);
        faultOf(0, "wall 0 0;", 5, 9);
        faultOf(0, "wall 1 1;", 5, 9);
        faultOf(0, "wall 2 2;ewe 2 2;", 5, 17);
        faultOf(0, "ewe 0 0;", 5, 8);
        faultOf(0, "ewe 1 1;", 5, 8);
        faultOf(0, "pen 1 1;", 5, 8);
        faultOf(0, "ram 2 2;goose 2 2;", 5, 18);
        faultOf(0, "pen 1 1;pen 0 0;", 0, NONE);
        faultsOfStruckLines();
    }

    /** FAULT 4 asks after each cell that was told of, FAULT 5 after what the fell has in the end. */
    private static void faultsOfStruckLines() {
        faultOf(0, "pen 7 0;pen 0 0;    ", 4, 20);
        faultOf(0, "pen 0 6;pen 5 0;pen 0 5;", 4, 24);
        faultOf(0, "dog 6 1 3;dog 1 1 3;", 4, 20);
        faultOf(0, "dog 1 6 3;dog 1 1 3;", 4, 20);
        faultOf(0, "dog 7 7 3;dog 7 6 3;dog 2 2 3;size 8 8;", 0, NONE);
        faultOf(0, "pen 7 0;pen 0 0;size 8 6;", 0, NONE);
        faultOf(0, "size 8 8;pen 7 0;pen 0 0;size 6 6;", 4, 34);
        faultOf(0, "size 7 7;dog 6 6 1;dog 1 1 1;size 2 2;", 4, 38);
        faultOf(0, "size 2 2;dog 6 6 1;dog 1 1 1;size 7 7;", 0, NONE);
        faultOf(0, "pen 7 0;pen 1 1;", 4, 16);
        faultOf(0, "wall 2 2;pen 2 2;pen 3 3;", 0, NONE);
        faultOf(0, "ewe 2 2;dog 2 2 3;dog 0 0 3;pen 4 4;", 0, NONE);
        faultOf(0, "dog 2 2 3;wall 1 1;pen 3 3;wall 0 0;", 0, NONE);
    }

    private static void fells() {
        DogNotary x = with(0, "", MIXED);
        long[] first = {6, 6, 0, 7, 3, 0};
        long[] mixed = {4, 3, 11, 0, 3, 4};
        for (int what = 0; what < 6; what++) {
            due("fell(0, " + what + ")", x.fell(0, what), first[what]);
            due("fell(1, " + what + ")", x.fell(1, what), mixed[what]);
        }
        int[] cells = {5, 1, 2, 8};
        for (int b = 0; b < 4; b++) {
            due("kind " + b, x.fell(1, 10 + b), b);
            due("cell " + b, x.fell(1, 20 + b), cells[b]);
        }
        for (int what : new int[] {-1, 6, 9, 14, 19, 24, 99, 112, Integer.MAX_VALUE, Integer.MIN_VALUE}) {
            due("fell(1, " + what + ")", x.fell(1, what), NONE);
        }
        for (int c = 0; c < 12; c++) {
            due("wall " + c, x.fell(1, 100 + c), c == 6 ? 1 : 0);
        }
        due("fell(0, 135)", x.fell(0, 135), 0);
        due("fell(0, 136)", x.fell(0, 136), NONE);
        due("fell(0, 10)", x.fell(0, 10), NONE);
        due("fell(2, 0)", x.fell(2, 0), NONE);
        due("fell(-1, 0)", x.fell(-1, 0), NONE);
    }

    private static void whistles() {
        DogNotary x = with(1, MIXED_DRIVE, "");
        due("how many", x.whistle(0, NONE, 0), 9);
        int[] what = {1, 2, 0, 3, 0, 3, 1, 0, 2};
        int[] way = {NONE, NONE, 1, NONE, 2, NONE, NONE, 2, NONE};
        for (int k = 0; k < 9; k++) {
            due("whistle " + k, x.whistle(0, k, 0), what[k]);
            due("direction " + k, x.whistle(0, k, 1), way[k]);
        }
        due("k 9", x.whistle(0, 9, 0), -2);
        due("k -2", x.whistle(0, -2, 0), -2);
        due("k NONE, what 1", x.whistle(0, NONE, 1), -2);
        due("what 2", x.whistle(0, 0, 2), -2);
        due("what -1", x.whistle(0, 0, -1), -2);
        due("an empty one", x.whistle(1, NONE, 0), 0);
        due("k 0 of none", x.whistle(1, 0, 0), -2);
        due("drive 2", x.whistle(2, NONE, 0), -2);
    }

    /*
     * The mixed fell (W a wall, P the pen, D the dog), and how it goes on:
     *   D r b .     lie: nothing; stand: the ewe goes down, the ram into her cell, the bolter right and down, the goose up
     *   . e W .     go 1: the ewe right, the ram down, the bolter into the pen, the goose up
     *   g . . P     back: nothing; go 2 (his back is turned): nothing; back: he faces them
     *               again, from column 1, row 1: the ewe goes right into the pen
     */
    private static void states() {
        DogNotary x = with(0, MIXED);
        say(x, 1, MIXED_DRIVE);
        due("till", x.till(0, 0), 8);
        due("till of no fell", x.till(1, 0), NONE);
        due("till of no drive", x.till(0, 1), NONE);
        int[][] cells = {{5, 1, 2, 8}, {5, 1, 2, 8}, {9, 5, 7, 4}, {10, 9, 11, 0}, {10, 9, 11, 0}, {10, 9, 11, 0}};
        int[] dog = {0, 0, 0, 1, 1, 5, 5, 5, 5};
        int[] lies = {0, 1, 0, 0, 0, 0, 0, 1, 0};
        int[] back = {0, 0, 0, 0, 1, 1, 0, 0, 0};
        for (int n = 0; n < 6; n++) {
            for (int b = 0; b < 4; b++) {
                due("state " + n + ", cell of " + b, x.state(0, 0, n, 10 + b), cells[n][b]);
            }
        }
        for (int n = 0; n < 7; n++) {
            due("minute " + n, x.state(0, 0, n, 0), n);
            due("dog " + n, x.state(0, 0, n, 1), dog[n]);
            due("lies " + n, x.state(0, 0, n, 2), lies[n]);
            due("back " + n, x.state(0, 0, n, 3), back[n]);
            due("penned " + n, x.state(0, 0, n, 4), n < 3 ? 0 : n < 6 ? 4 : 5);
        }
        due("lies 7", x.state(0, 0, 7, 2), 1);
        due("go gets him up", x.state(0, 0, 8, 2), 0);
        due("dog 8", x.state(0, 0, 8, 1), 9);
        due("steps in all", x.state(0, 0, 3, 5), 9);
        int[] steps = {2, 2, 3, 2};
        for (int b = 0; b < 4; b++) {
            due("steps of " + b, x.state(0, 0, 3, 20 + b), steps[b]);
        }
        due("state 9", x.state(0, 0, 9, 0), -2);
        due("state -1", x.state(0, 0, -1, 0), -2);
        for (int what : new int[] {-1, 6, 9, 14, 24, Integer.MAX_VALUE}) {
            due("state, what " + what, x.state(0, 0, 0, what), -2);
        }
        due("state of no fell", x.state(1, 0, 0, 0), -2);
        due("state of no drive", x.state(0, 1, 0, 0), -2);
    }

    private static int tillOf(String fell, String drive) {
        DogNotary x = with(0, fell);
        say(x, 1, drive);
        return x.till(0, 0);
    }

    private static void edgesOfWhistles() {
        due("up beyond the fell", tillOf("", "go 0;go 0;"), 1);
        due("left into the pen", tillOf("", "go 0;go 3;"), 1);
        due("right beyond the fell", tillOf("size 3 3;", "go 1;go 1;"), 1);
        due("down beyond the fell", tillOf("size 3 3;", "go 2;go 2;"), 1);
        due("left beyond the fell", tillOf("", "go 3;go 3;"), 1);
        due("into a wall", tillOf("wall 2 1;", "go 2;go 0;go 1;"), 2);
        due("into a beast that stays", tillOf("dog 1 1 3;goose 1 2;", "go 2;"), 0);
        due("lie twice", tillOf("", "lie;lie;"), 1);
        due("stand at first", tillOf("", "stand;"), 0);
        due("stand behind lie", tillOf("", "lie;stand;stand;"), 2);
        due("lie, go, stand", tillOf("", "lie;go 1;stand;"), 2);
        due("lie, go, lie", tillOf("", "lie;go 1;lie;"), 3);
        due("back, lying", tillOf("", "lie;back;back;stand;back;back;"), 6);
        due("none", tillOf("", ""), 0);
        due("forty", tillOf("", "back;".repeat(40)), 40);
        // two ewes by one step into the pen, one behind the other
        DogNotary x = with(0, "size 4 2;pen 3 0;dog 1 0 2;ewe 2 0;ewe 3 1;");
        say(x, 1, "back;back;");
        due("both penned", x.state(0, 0, 2, 4), 1);
        due("the other one stays", x.state(0, 0, 2, 11), 7);
        // a bolter that is penned by its first step has no second one
        DogNotary y = with(0, "size 5 2;pen 2 0;dog 0 0 1;bolter 1 0;");
        say(y, 1, "back;back;");
        due("penned by the first step", y.state(0, 0, 2, 20), 1);
        due("in the pen", y.state(0, 0, 2, 10), 2);
        // the second step goes on beyond the eye
        due("beyond the eye", with(0, "size 5 2;pen 4 1;dog 0 0 1;bolter 1 0;").shy(0, 0), 3);
        // a row that goes by numbers: the one in front must have gone already
        DogNotary z = with(0, "size 2 5;pen 1 0;dog 0 0 9;ewe 0 3;ewe 0 2;wall 1 2;wall 1 3;wall 1 4;");
        say(z, 1, "back;back;");
        due("the first by numbers", z.state(0, 0, 2, 10), 8);
        due("the second behind it", z.state(0, 0, 2, 11), 6);
    }

    private static void shy() {
        DogNotary x = with(0, MIXED, STUCK);
        int[] cells = {9, 1, 7, 4};
        for (int b = 0; b < 4; b++) {
            due("shy " + b, x.shy(0, b), cells[b]);
        }
        due("shy goose next to him", x.shy(1, 0), 2);
        due("shy 4", x.shy(0, 4), NONE);
        due("shy -1", x.shy(0, -1), NONE);
        due("shy of no fell", x.shy(2, 0), NONE);
        due("out of his eye", with(0, "dog 1 1 3;ewe 3 3;").shy(0, 0), 21);
        due("in his eye", with(0, "dog 1 1 4;ewe 3 3;").shy(0, 0), 22);
        due("a ram two steps off", with(0, "dog 1 1 4;ram 3 1;").shy(0, 0), 9);
        due("a ram next to him", with(0, "dog 1 1 4;ram 2 1;").shy(0, 0), 2);
        due("a goose comes nearer", with(0, "dog 1 1 4;goose 3 1;").shy(0, 0), 8);
        due("a goose by the first direction", with(0, "dog 1 1 4;goose 3 3;").shy(0, 0), 15);
        due("a bolter up, and up", with(0, "dog 3 5 4;bolter 3 4;").shy(0, 0), 15);
        due("a bolter with one step alone", with(0, "size 3 2;pen 0 1;dog 1 0 1;bolter 2 0;wall 1 1;").shy(0, 0), 5);
    }

    /*
     * . D is at column 0, row 0; the ewe at 1 1, the pen at 2 1. Right: he is above her, she goes right into the pen.
     */
    private static void drivenAndHeard() {
        DogNotary x = with(0, SMALL, STUCK);
        due("driven", x.driven(0, 0, 0), 1);
        due("its first direction", x.driven(0, 0, 1), 1);
        due("what 3", x.driven(0, 0, 3), NONE);
        due("what -1", x.driven(0, 0, -1), NONE);
        due("no beast", x.driven(0, 1, 0), NONE);
        due("no fell", x.driven(2, 0, 2), NONE);
        due("never", x.driven(1, 0, 0), NONE);
        due("never, direction", x.driven(1, 0, 1), NONE);
        due("never, reach", x.driven(1, 0, 2), 1);
        due("heard by 3, N", x.heard(0, 0, 3, false), 10);
        due("heard by 3, D", x.heard(0, 0, 3, true), 3);
        due("heard by 4, N", x.heard(0, 0, 4, false), 5);
        due("heard by 4, D", x.heard(0, 0, 4, true), 2);
        due("heard by 10, N", x.heard(0, 0, 10, false), 1);
        due("heard by 10, D", x.heard(0, 0, 10, true), 1);
        due("heard by 1, N", x.heard(0, 0, 1, false), 10);
        due("heard by 0", x.heard(0, 0, 0, false), NONE);
        due("heard by 11", x.heard(0, 0, 11, true), NONE);
        due("heard never", x.heard(1, 0, 5, false), NONE);
        due("heard of no beast", x.heard(0, 1, 5, false), NONE);
        due("heard of no fell", x.heard(-1, 0, 5, false), NONE);
        // a row of cells behind walls: the ewe is pushed right by each going, the other beast being away
        String lane = "size 6 2;pen 5 0;dog 0 0 1;ewe 2 0;ram 4 0;wall 0 1;wall 1 1;wall 2 1;wall 3 1;wall 4 1;wall 5 1;";
        DogNotary y = with(0, lane);
        due("a lane", y.driven(0, 0, 0), 3);
        due("a lane's direction", y.driven(0, 0, 1), 1);
        due("a lane's reach", y.driven(0, 0, 2), 4);
        due("a lane, the ram", y.driven(0, 1, 0), 3);
        due("a lane's ram's reach", y.driven(0, 1, 2), 2);
        due("a lane by 6, N", y.heard(0, 0, 6, false), 5);
        due("a lane by 6, D", y.heard(0, 0, 6, true), 1);
        due("a lane by 9, D", y.heard(0, 0, 9, true), 3);
        // two directions are as good: the least is told
        DogNotary z = with(0, "size 3 3;pen 2 1;dog 0 1 2;ewe 1 1;wall 1 0;wall 1 2;");
        due("either way", z.driven(0, 0, 0), 1);
        due("the least direction", z.driven(0, 0, 1), 0);
    }

    private static void safeAndNearest() {
        DogNotary x = with(0, SMALL, STUCK);
        // the cells 0, 1, 2, 3 are free for him; from 1 and 3 she would go, 0 and 2 are out of his eye
        due("safe", x.safe(0, false), 2);
        due("safe, the least", x.safe(0, true), 0);
        due("safe, stuck", x.safe(1, false), 1);
        due("safe, stuck, the least", x.safe(1, true), 3);
        due("safe of no fell", x.safe(2, false), -2);
        due("safe without beasts", with(0, "size 3 3;wall 2 2;").safe(0, false), 7);
        DogNotary none = with(0, "size 3 3;pen 0 0;dog 0 1 9;ewe 1 1;");
        due("safe nowhere", none.safe(0, false), 0);
        due("safe nowhere, the least", none.safe(0, true), NONE);
        // a wall parts column 0 from the rest but for row 3
        DogNotary y = with(0, "size 4 4;pen 3 0;dog 3 3 1;wall 1 0;wall 1 1;wall 1 2;ewe 2 0;ram 0 3;ewe 2 1;");
        due("nearest of a beast's own cell", y.nearest(0, 2, false), 0);
        due("its steps", y.nearest(0, 2, true), 0);
        due("nearest by walking", y.nearest(0, 0, false), 1);
        due("its steps", y.nearest(0, 0, true), 3);
        due("of several the least", y.nearest(0, 10, false), 2);
        due("the least of two", y.nearest(0, 14, true), 2);
        due("nearest of a wall", y.nearest(0, 1, false), NONE);
        due("steps of a wall", y.nearest(0, 1, true), NONE);
        due("cell 16", y.nearest(0, 16, false), NONE);
        due("cell -1", y.nearest(0, -1, true), NONE);
        due("no fell", y.nearest(1, 0, false), NONE);
        due("nearest without beasts", with(0, "").nearest(0, 0, false), NONE);
        DogNotary z = with(0, "size 3 2;pen 2 0;dog 2 1 1;wall 1 0;wall 1 1;ewe 0 0;");
        due("nearest that can't be come to", z.nearest(0, 2, false), NONE);
        due("steps that can't be come to", z.nearest(0, 2, true), NONE);
        DogNotary two = with(0, "size 3 3;pen 0 0;dog 2 2 1;ewe 1 0;ewe 1 2;");
        due("of two the least", two.nearest(0, 4, false), 0);
        due("two's steps", two.nearest(0, 4, true), 1);
    }

    private static void books() {
        DogNotary x = with(2, BOOK, "");
        int[][] wanted = {{0, 2}, {1, 4}, {2, 5}, {10, 5}, {11, 3}, {12, NONE}, {20, 1}, {21, 2}, {22, NONE}, {30, 4}, {33, 1},
            {34, NONE}, {40, 10}, {42, 9}, {44, NONE}, {50, 4}, {54, 3}, {55, NONE}, {3, NONE}, {-1, NONE}, {9, NONE}};
        for (int[] w : wanted) {
            due("book(0, " + w[0] + ")", x.book(0, w[0]), w[1]);
        }
        due("book(2, 0)", x.book(2, 0), NONE);
        due("book(1, 0)", x.book(1, 0), 0);
        due("the most worth", x.notary(0, NONE), 20);
        int[] row = {0, 1, 5, 1};
        for (int k = 0; k < 4; k++) {
            due("who drives " + k, x.notary(0, k), row[k]);
        }
        due("notary 4", x.notary(0, 4), NONE);
        due("notary -2", x.notary(0, -2), NONE);
        due("notary of an empty book", x.notary(1, NONE), 0);
        due("notary 0 of an empty book", x.notary(1, 0), NONE);
        due("notary of no book", x.notary(2, NONE), NONE);
        due("dear 0", x.dear(0, 0), 10);
        due("dear 1", x.dear(0, 1), 10);
        due("dear 2", x.dear(0, 2), NONE);
        due("dear -1", x.dear(0, -1), NONE);
        due("dear of no book", x.dear(-1, 0), NONE);
        due("idle", x.idle(0), 0);
        due("idle of an empty book", x.idle(1), 0);
        due("idle of no book", x.idle(2), NONE);
        due("run of 2", x.run(0, 2, false), 2);
        due("run of 2, worth", x.run(0, 2, true), 7);
        due("run of 5", x.run(0, 5, false), 0);
        due("run of 5, worth", x.run(0, 5, true), 15);
        due("run of 6", x.run(0, 6, false), NONE);
        due("run of 0", x.run(0, 0, true), NONE);
        due("run of -1", x.run(0, -1, true), NONE);
        due("run of 1", x.run(0, 1, false), 2);
        due("run of no book", x.run(2, 1, false), NONE);
        due("run of no fields", x.run(1, 1, false), NONE);
        DogNotary y = with(2, "field 7;field 1;field 7;field 1;", "field 1;".repeat(10));
        due("run, of several the least", y.run(0, 2, false), 0);
        due("run of 3", y.run(0, 3, false), 0);
        due("run of 10", y.run(1, 10, true), 10);
        due("run of 11", y.run(1, 11, true), NONE);
    }

    private static void notariesEdges() {
        // a bargain that is worth nothing is driven all the same, if it costs nothing: the first row by numbers
        DogNotary x = with(2, "dog 1 3;dog 9 0;bargain 1 0;bargain 1 5;bargain 2 9;", "dog 3 1;dog 3 1;bargain 3 4;bargain 3 4;bargain 3 4;");
        due("worth", x.notary(0, NONE), 5);
        due("worth 0", x.notary(0, 0), 0);
        due("worth 5", x.notary(0, 1), 0);
        due("no eye is enough", x.notary(0, 2), 5);
        due("one without turns is idle", x.idle(0), 2);
        due("dear without turns", x.dear(0, 1), 0);
        due("dear with all", x.dear(0, 0), 5);
        due("first", x.notary(1, 0), 0);
        due("second", x.notary(1, 1), 1);
        due("third", x.notary(1, 2), 5);
        // the better eye must be kept for the bargain that needs it
        DogNotary y = with(2, "dog 9 1;dog 1 1;bargain 1 3;bargain 9 8;");
        due("kept, worth", y.notary(0, NONE), 11);
        due("kept 0", y.notary(0, 0), 1);
        due("kept 1", y.notary(0, 1), 0);
        // nothing is worth so much that the last turn must not go to a better one
        DogNotary z = with(2, "dog 4 1;dog 2 0;dog 9 0;bargain 4 0;bargain 4 1;");
        due("left for the better one", z.notary(0, 0), 5);
        due("the better one", z.notary(0, 1), 0);
        due("idle of three", z.idle(0), 6);
    }

    private static void parted() {
        DogNotary x = with(2, BOOK, "");
        int[][] wanted = {{1, -1, 15}, {1, 0, -1}, {2, -1, 5}, {2, 0, 2}, {2, 1, -1}, {3, -1, 5}, {3, 0, 2}, {3, 1, 3}, {4, -1, 2},
            {4, 0, 1}, {4, 1, 3}, {4, 2, 4}, {5, -1, 1}, {5, 0, 1}, {5, 3, 4}, {5, 4, -1}, {0, -1, -1}, {6, -1, -1}, {3, -2, -1}};
        for (int[] w : wanted) {
            due("parted(0, " + w[0] + ", " + w[1] + ")", x.parted(0, w[0], w[1]), w[2]);
        }
        due("parted without fields", x.parted(1, 3, NONE), 0);
        due("its cut", x.parted(1, 3, 1), 0);
        due("parted of no book", x.parted(2, 3, NONE), NONE);
        DogNotary y = with(2, "field 9;", "field 0;field 5;field 0;field 5;field 0;");
        due("more parts than fields", y.parted(0, 2, NONE), 0);
        due("its first cut", y.parted(0, 2, 0), 0);
        due("naughts", y.parted(1, 2, NONE), 5);
        due("as early as may be", y.parted(1, 2, 0), 2);
        due("by two cuts", y.parted(1, 3, 1), 0);
    }

    private static void logs() {
        DogNotary x = with(3, LOG, "");
        due("facts", x.fact(0, NONE, 0), 2);
        int[][] facts = {{0, 27, 35, 0}, {2, 27, 51, NONE}};
        for (int k = 0; k < 2; k++) {
            for (int what = 0; what < 4; what++) {
                due("fact(0, " + k + ", " + what + ")", x.fact(0, k, what), facts[k][what]);
            }
        }
        due("fact 2", x.fact(0, 2, 0), -2);
        due("fact -2", x.fact(0, -2, 0), -2);
        due("facts, what 1", x.fact(0, NONE, 1), -2);
        due("fact, what 4", x.fact(0, 0, 4), -2);
        due("fact, what -1", x.fact(0, 0, -1), -2);
        due("no log", x.fact(2, NONE, 0), -2);
        due("twice", with(3, "twice 0 1 2 1 3;").fact(0, 0, 0), 1);
        due("twice's direction", with(3, "twice 0 1 2 1 3;").fact(0, 0, 3), 3);
        // ewes by an eye of 1 or 2, and all rams
        due("fits", x.fits(0, 0), 11);
        due("sure of the kind", x.fits(0, 1), NONE);
        due("sure of the eye", x.fits(0, 2), NONE);
        int[] kth = {0, 1, 9, 10, 11, 12, 13, 14, 15, 16, 17, -2, -2};
        for (int k = 0; k < kth.length; k++) {
            due("the k-th, " + k, x.fits(0, 10 + k), kth[k]);
        }
        due("fits, what 3", x.fits(0, 3), -2);
        due("fits, what 9", x.fits(0, 9), -2);
        due("fits, what -1", x.fits(0, -1), -2);
        due("fits of no log", x.fits(-1, 0), -2);
        due("all fit an empty log", x.fits(1, 0), 36);
        due("the last one", x.fits(1, 45), 35);
        due("one more", x.fits(1, 46), -2);
        due("nothing fits", with(3, "went 0 0 0 1 0;").fits(0, 0), 0);
        due("sure by nothing", with(3, "went 0 0 0 1 0;").fits(0, 1), NONE);
        due("a step over the edge is none", with(3, "went 7 2 7 3 1;").fits(0, 0), 0);
        DogNotary b = with(3, "twice 3 3 3 5 0;stayed 3 3 3 6;");
        due("a bolter by an eye of 2", b.fits(0, 0), 1);
        due("it", b.fits(0, 10), 19);
        due("sure of its kind", b.fits(0, 1), 2);
        due("sure of its eye", b.fits(0, 2), 2);
        // an ewe by an eye of 1, and all rams
        DogNotary near = with(3, "went 3 3 3 4 0;stayed 3 3 3 5;");
        due("an ewe that is like a ram", near.fits(0, 0), 10);
        due("she is the first", near.fits(0, 10), 0);
        due("so no kind is sure", near.fits(0, 1), NONE);
        due("nor an eye", near.fits(0, 2), NONE);
        DogNotary goose = with(3, "went 3 3 5 3 1;");
        due("a goose by an eye of 2 or more", goose.fits(0, 0), 8);
        due("sure of the goose", goose.fits(0, 1), 3);
        due("not of its eye", goose.fits(0, 2), NONE);
        due("a bolter with two directions did neither", with(3, "went 3 1 3 2 0;").fits(0, 0), 18);
        due("a bolter with one step alone", with(3, "went 7 1 6 1 0;").fits(0, 0), 27);
    }

    private static void asksAndWoulds() {
        DogNotary x = with(3, LOG, "went 0 0 0 1 0;");
        // two steps off an ewe by an eye of 2 goes, the ten others stay
        due("ask", x.ask(0, 27), 11);
        due("ask -1", x.ask(0, -1), NONE);
        due("ask 64", x.ask(0, 64), NONE);
        due("ask of no log", x.ask(2, 0), NONE);
        due("ask where nothing fits", x.ask(1, 0), NONE);
        due("ask in a corner", x.ask(0, 0), 2);
        due("ask where all do the same", with(3, "went 3 3 3 4 0;stayed 3 3 3 5;").ask(0, 0), 1);
        due("would 0, two steps off", x.would(0, 27, 11, 0), 27);
        due("would 1, two steps off", x.would(0, 27, 11, 1), 28);
        due("would 2, next to it", x.would(0, 27, 19, 2), 28);
        due("would 10", x.would(0, 27, 35, 10), 19);
        due("would 11", x.would(0, 27, 35, 11), NONE);
        due("would -1", x.would(0, 27, 35, -1), NONE);
        due("would in one cell", x.would(0, 27, 27, 0), NONE);
        due("would, cell 64", x.would(0, 64, 27, 0), NONE);
        due("would, cell -1", x.would(0, -1, 27, 0), NONE);
        due("would, dog 64", x.would(0, 27, 64, 0), NONE);
        due("would, dog -1", x.would(0, 27, -1, 0), NONE);
        due("would of no log", x.would(2, 27, 35, 0), NONE);
        due("would where nothing fits", x.would(1, 27, 35, 0), NONE);
    }

    private static void holdings() {
        DogNotary x = new DogNotary();
        // worths 0 and 0: all couples with a 0
        due("0, 0", x.holding(0, 0, NONE), 19);
        due("0, 0, the 9th", x.holding(0, 0, 9), 9);
        due("0, 0, the 10th", x.holding(0, 0, 10), 10);
        due("0, 0, the 18th", x.holding(0, 0, 18), 90);
        due("0, 0, the 19th", x.holding(0, 0, 19), NONE);
        // 20 and 0: the second says 0, the first anything
        due("20, 0", x.holding(20, 0, NONE), 10);
        due("20, 0, the 3rd", x.holding(20, 0, 3), 30);
        // 0 and 20: the first says 0 and the second more, or 9 and 0
        due("0, 20", x.holding(0, 20, NONE), 10);
        due("0, 20, the 0th", x.holding(0, 20, 0), 1);
        due("0, 20, the 9th", x.holding(0, 20, 9), 90);
        due("-1, 0", x.holding(-1, 0, NONE), NONE);
        due("21, 0", x.holding(21, 0, NONE), NONE);
        due("0, 21", x.holding(0, 21, 0), NONE);
        due("0, -1", x.holding(0, -1, 0), NONE);
        due("k -2", x.holding(0, 0, -2), NONE);
        int[][] replies = {{5, 3, 3}, {3, 3, 0}, {4, 3, 3}, {0, 0, 0}, {20, 0, 0}, {20, 9, 9}, {9, 9, 0}, {0, 5, 0},
            {21, 0, -1}, {-1, 0, -1}, {5, 10, -1}, {5, -1, -1}};
        for (int[] r : replies) {
            due("reply(" + r[0] + ", " + r[1] + ")", x.reply(r[0], r[1]), r[2]);
        }
    }

    private static void fogs() {
        DogNotary x = new DogNotary();
        long[][] wanted = {{10, 5, 1, 0, 5}, {10, 5, 1, 1, 1}, {10, 5, 2, 0, 29}, {10, 5, 2, 1, 4}, {7, 0, 9, 0, 7}, {7, 0, 9, 1, 1},
            {7, 10, 9, 0, 0}, {7, 10, 9, 1, 1}, {0, 3, 4, 0, 0}, {0, 3, 4, 1, 1}, {1, 5, 9, 0, 1}, {1, 5, 9, 1, 2},
            {2, 1, 2, 0, 189}, {2, 1, 2, 1, 100}, {5, 0, 1, 2, 1}, {5, 1, 1, 2, 1}, {5, 2, 1, 2, 2}, {5, 3, 1, 2, 2}, {5, 4, 1, 2, 3},
            {5, 5, 1, 2, 4}, {5, 6, 1, 2, 5}, {5, 7, 1, 2, 7}, {5, 8, 9, 2, -1}, {5, 10, 9, 2, -1}, {21, 0, 1, 0, -1}, {-1, 0, 1, 0, -1},
            {5, 11, 1, 0, -1}, {5, -1, 1, 2, -1}, {5, 5, 0, 0, -1}, {5, 5, 10, 2, -1}, {5, 5, 1, 3, -1}, {5, 5, 1, -1, -1},
            {20, 9, 9, 1, 500000000}};
        for (long[] w : wanted) {
            due("fog(" + w[0] + ", " + w[1] + ", " + w[2] + ", " + w[3] + ")",
                x.fog((int) w[0], (int) w[1], (int) w[2], (int) w[3]), w[4]);
        }
    }

    /** The numbers that a seed draws, in long numbers. */
    private static String driveOfSeed(int seed, int n) {
        long x = seed & 0xffffffffL;
        StringBuilder s = new StringBuilder();
        for (int i = 0; i < n; i++) {
            x = (x * 1103515245L + 12345L) % 4294967296L;
            long sign = (x / 65536) % 8;
            if (sign < 5) {
                x = (x * 1103515245L + 12345L) % 4294967296L;
                s.append("go ").append((x / 65536) % 4).append(';');
            } else {
                s.append(sign == 5 ? "lie;" : sign == 6 ? "stand;" : "back;");
            }
        }
        return s.toString();
    }

    private static void drawn() {
        DogNotary x = with(0, MIXED);
        for (int what : new int[] {0, 1, 2, 3, 4, 5, 10, 13, 20, 23, 14, 6, -1}) {
            x.text(1, x.count(1) == 0 ? NONE : 0);
            due("drawn 0 times, what " + what, x.drawn(0, 77, 0, what), x.state(0, 0, 0, what));
        }
        due("n 61", x.drawn(0, 1, 61, 0), -2);
        due("n -1", x.drawn(0, 1, -1, 0), -2);
        due("n 60", x.drawn(0, 1, 60, 0) > 0, true);
        due("no fell", x.drawn(1, 1, 1, 0), -2);
        for (int seed : new int[] {0, 1, -1, 4711, Integer.MIN_VALUE, Integer.MAX_VALUE, 123456789}) {
            sameAsDrive(seed);
        }
    }

    /** By hand: the whistles of a seed one by one, those that can't be being left out. */
    private static void sameAsDrive(int seed) {
        String[] all = driveOfSeed(seed, 30).split(";");
        DogNotary x = with(0, MIXED);
        String kept = "";
        x.text(1, NONE);
        for (int i = 0; i < all.length; i++) {
            feedAll(x, kept + all[i] + ";");
            x.text(1, 0);
            int n = x.whistle(0, NONE, 0);
            if (x.till(0, 0) == n) {
                kept += all[i] + ";";
            } else {
                n--;
            }
            for (int what : new int[] {0, 1, 2, 3, 4, 5, 10, 11, 12, 13, 22}) {
                due("drawn by " + seed + ", " + (i + 1) + " times, what " + what, x.drawn(0, seed, i + 1, what), x.state(0, 0, n, what));
            }
        }
    }

    private static void middles() {
        DogNotary x = with(0, "size 5 5;pen 0 0;dog 4 4 1;ewe 1 2;ewe 3 2;", "size 3 3;wall 1 0;");
        due("middle, of several the least", x.middle(0, false), 11);
        due("its steps", x.middle(0, true), 2);
        due("middle without beasts", x.middle(1, false), 0);
        due("its steps", x.middle(1, true), 0);
        due("no fell", x.middle(2, false), NONE);
        DogNotary y = with(0, "size 3 3;pen 0 0;dog 2 2 1;ewe 0 1;ewe 2 1;ewe 1 0;wall 1 1;");
        due("middle is no wall", y.middle(0, false), 1);
        due("its steps", y.middle(0, true), 4);
    }

    private static void posts() {
        // the ewe in the middle of 3 by 3, an eye of 1; the pen at 0 0; the cell 3 (left of her) has a ram
        DogNotary x = with(0, "size 3 3;pen 0 0;dog 2 2 1;ewe 1 1;ram 0 1;", STUCK);
        due("post up", x.post(0, 0, 0, false), 5);
        due("how many", x.post(0, 0, 0, true), 2);
        due("post right", x.post(0, 0, 1, false), 1);
        due("how many", x.post(0, 0, 1, true), 1);
        due("post down", x.post(0, 0, 2, false), NONE);
        due("how many", x.post(0, 0, 2, true), 0);
        due("post of the ram up", x.post(0, 1, 0, false), 6);
        due("direction 4", x.post(0, 0, 4, true), -2);
        due("direction -1", x.post(0, 0, -1, false), -2);
        due("beast 2", x.post(0, 2, 0, false), -2);
        due("no fell", x.post(2, 0, 0, false), -2);
        due("cornered", x.cornered(0), 0);
        due("cornered, stuck", x.cornered(1), 1);
        due("cornered of no fell", x.cornered(2), NONE);
        due("cornered without beasts", with(0, "").cornered(0), 0);
        DogNotary y = with(0, "size 4 2;pen 3 1;dog 3 0 9;ewe 0 0;ewe 0 1;wall 1 0;wall 1 1;ewe 2 0;");
        due("cornered by walls and each other", y.cornered(0), 3);
        // a bolter's first step is what counts
        DogNotary z = with(0, "size 3 3;pen 0 0;dog 0 2 9;bolter 1 1;");
        due("a bolter up first", z.post(0, 0, 0, false), 3);
    }

    private static void lines() {
        // the pen at 0 0; walls make the ewe's way longer; the last ram is shut in
        DogNotary x = with(0, "size 4 3;dog 3 0 1;wall 1 0;wall 2 2;wall 3 1;ewe 2 0;ram 3 2;goose 0 2;ewe 1 1;");
        int[] row = {2, 3, 0, 1, NONE};
        for (int k = 0; k < row.length; k++) {
            due("lined " + k, x.lined(0, k), row[k]);
        }
        due("lined -1", x.lined(0, -1), NONE);
        due("lined of no fell", x.lined(1, 0), NONE);
        due("lined without beasts", with(0, "").lined(0, 0), NONE);
    }

    private static void greedy() {
        DogNotary x = with(0, SMALL, STUCK);
        due("penned at first", x.greedy(0, 0, 0), 0);
        due("steps at first", x.greedy(0, 0, 1), 1);
        due("dog at first", x.greedy(0, 0, 2), 0);
        due("penned behind one", x.greedy(0, 1, 0), 1);
        due("steps behind one", x.greedy(0, 1, 1), 0);
        due("dog behind one", x.greedy(0, 1, 2), 1);
        // all is the same now: he goes by the least direction, down, then up, and so on
        due("dog behind two", x.greedy(0, 2, 2), 2);
        due("dog behind three", x.greedy(0, 3, 2), 1);
        due("dog behind forty", x.greedy(0, 40, 2), 2);
        due("he can't go", x.greedy(1, 5, 2), 3);
        due("steps if he can't go", x.greedy(1, 5, 1), 1);
        due("n 41", x.greedy(0, 41, 0), NONE);
        due("n -1", x.greedy(0, -1, 0), NONE);
        due("what 3", x.greedy(0, 1, 3), NONE);
        due("what -1", x.greedy(0, 1, -1), NONE);
        due("no fell", x.greedy(2, 1, 0), NONE);
    }

    private static void caughtAndSpread() {
        DogNotary x = with(0, MIXED, SMALL);
        say(x, 1, MIXED_DRIVE);
        say(x, 1, "go 1;");
        due("caught bolter", x.caught(0, 0, 2), 3);
        due("caught goose", x.caught(0, 0, 3), NONE);
        due("caught ewe", x.caught(1, 1, 0), 1);
        due("caught beast 1", x.caught(1, 1, 1), NONE);
        due("caught of no fell", x.caught(2, 0, 0), NONE);
        due("caught of no drive", x.caught(0, 2, 0), NONE);
        // behind END nothing is caught
        DogNotary y = with(0, SMALL);
        say(y, 1, "stand;go 1;");
        due("caught behind END", y.caught(0, 0, 0), NONE);
        // a shorter drive in the place of a longer one
        x.text(1, 1);
        due("caught by no whistles", x.caught(1, 1, 0), NONE);
        due("till of no whistles", x.till(1, 1), 0);
        due("spread at first", x.spread(0, 0, 0), 4);
        due("spread 3", x.spread(0, 0, 3), 5);
        due("spread 8", x.spread(0, 0, 8) >= 0, true);
        due("spread 9", x.spread(0, 0, 9), NONE);
        due("spread -1", x.spread(0, 0, -1), NONE);
        due("spread of one beast", x.spread(1, 1, 0), NONE);
        due("spread of no fell", x.spread(2, 0, 0), NONE);
        due("spread of no drive", x.spread(0, 2, 0), NONE);
    }

    private static void thrice() {
        DogNotary x = with(0, "size 5 2;", "size 8 8;");
        say(x, 1, "go 1;");
        say(x, 1, "lie;");
        due("right, three times", x.thrice(0, 0), 3);
        due("lie, one time", x.thrice(0, 1), 1);
        due("no fell", x.thrice(2, 0), NONE);
        due("no drive", x.thrice(0, 2), NONE);
        feedAll(x, "go 1;go 1;");
        x.text(1, 0);
        due("two right on five columns", x.thrice(0, 0), 1);
        due("two right on eight columns", x.thrice(1, 0), 3);
        x.text(1, 1);
        due("no whistles", x.thrice(0, 1), 3);
        feedAll(x, "stand;");
        x.text(1, 1);
        due("not one time", x.thrice(0, 1), 0);
        feedAll(x, "back;lie;stand;");
        x.text(1, 1);
        due("his back is not turned again", x.thrice(0, 1), 3);
    }

    private static void stirs() {
        DogNotary x = with(0, SMALL, STUCK);
        due("stir", x.stir(0, false), 1);
        due("stir, how many", x.stir(0, true), 1);
        due("stir, stuck", x.stir(1, false), 3);
        due("stir, stuck, how many", x.stir(1, true), 0);
        due("stir of no fell", x.stir(2, false), NONE);
        due("stir of no fell, how many", x.stir(2, true), NONE);
        due("stir without beasts", with(0, "").stir(0, false), 1);
        // in a lane the front ewe makes room for the one behind her, if she is the first by numbers
        String lane = "size 5 2;pen 4 1;dog 0 0 9;wall 0 1;wall 1 1;wall 2 1;wall 3 1;";
        due("room is made", with(0, lane + "ewe 2 0;ewe 1 0;").stir(0, true), 2);
        due("from behind them", with(0, lane + "ewe 2 0;ewe 1 0;").stir(0, false), 0);
        due("no room is made but from the other side", with(0, lane + "ewe 1 0;ewe 2 0;").stir(0, false), 3);
    }

    private static void images() {
        DogNotary x = with(0, SMALL);
        say(x, 1, "lie;");
        say(x, 2, BOOK);
        say(x, 3, LOG);
        say(x, 0, "size 9 9;");
        feedAll(x, "go 1;");
        due("image 0", x.image(0), true);
        due("image 3", x.image(3), false);
        due("image -1", x.image(-1), false);
        due("again 1", x.again(1), false);
        feedAll(x, "go 2;");
        x.text(1, 0);
        x.text(0, 0);
        x.text(0, NONE);
        x.text(2, 0);
        x.text(3, 0);
        due("image 2", x.image(2), true);
        due("other fell", x.fell(0, 0), 6);
        due("again 0", x.again(0), true);
        due("the fell", x.fell(0, 0), 3);
        due("fells", x.count(0), 1);
        due("the drive", x.whistle(0, 0, 0), 1);
        due("the book", x.book(0, 1), 4);
        due("the log", x.fact(0, NONE, 0), 2);
        due("the fault", x.fault(0), 2);
        due("its place", x.fault(1), 5);
        due("the tape", x.end(5), 5);
        due("the tape's bytes", x.text(1, NONE), 1);
        due("the tape's whistle", x.whistle(1, 0, 1), 1);
        due("again 2", x.again(2), true);
        due("fells then", x.count(0), 2);
        due("drives then", x.count(1), 1);
        due("the book then", x.book(0, 1), 0);
        due("again 0 once more", x.again(0), true);
        due("an image is not changed by what comes", x.count(1), 1);
        due("again 3", x.again(3), false);
        due("again -1", x.again(-1), false);
    }
}
