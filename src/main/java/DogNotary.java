import java.util.Arrays;

/** Fells, drives, books and logs told as texts, and what is asked of them; the promises stand in ../shared/DOC.md. */
public final class DogNotary {
    public static final int NONE = -1;

    private static final int NO_SUCH = -2;
    private static final int IMAGES = 3;

    private static final int FELLS = 0;
    private static final int DRIVES = 1;
    private static final int BOOKS = 2;
    private static final int LOGS = 3;
    private static final int SORTS = 4;
    private static final int MOST_OF_A_SORT = 2;

    private static final int MOST_BYTES = 600;
    private static final int MOST_BEASTS = 6;
    private static final int MOST_WHISTLES = 40;
    private static final int MOST_DOGS = 5;
    private static final int MOST_BARGAINS = 8;
    private static final int MOST_FIELDS = 10;
    private static final int MOST_FACTS = 8;

    private static final int RAM = 1;
    private static final int BOLTER = 2;
    private static final int GOOSE = 3;
    private static final int KINDS = 4;
    private static final int EYES = 9;

    /** Cells are held as 8 * row + column on every fell: columns and rows then need no division. */
    private static final int SIDE = 8;
    private static final int ALL_CELLS = 64;

    private static final int DIRECTIONS = 4;
    /** A whistle is held as one number: a going as its direction, the others behind these. */
    private static final int LIE = 4;
    private static final int STAND = 5;
    private static final int BACK = 6;

    private static final int WENT = 0;
    private static final int TWICE = 1;
    private static final int STAYED = 2;

    private static final int MOST_DRAWN = 60;
    private static final int MOST_GREEDY = 40;
    private static final int MOST_WORTH = 20;
    private static final int MOST_DAYS = 9;

    private final Told told;
    private final Told[] images;
    private final boolean[] kept;
    private final Reader reader;
    private final Flock flock;
    private final Flock trial;
    private final Flock chosen;
    private final Fell scratch;
    private final Walk walk;
    private final Chase chase;
    private final Notaries notaries;

    public DogNotary() {
        told = new Told();
        images = new Told[IMAGES];
        for (int k = 0; k < IMAGES; k++) {
            images[k] = new Told();
        }
        kept = new boolean[IMAGES];
        reader = new Reader();
        flock = new Flock();
        trial = new Flock();
        chosen = new Flock();
        scratch = new Fell();
        walk = new Walk();
        chase = new Chase();
        notaries = new Notaries();
    }

    // ---- the tape and the texts ----

    public int feed(int a, int b, int c, int d, int e) {
        if (told.length + 20 > MOST_BYTES) {
            return NONE;
        }
        told.append(a);
        told.append(b);
        told.append(c);
        told.append(d);
        told.append(e);
        return told.length;
    }

    public int end(int n) {
        if (n < 0 || n > told.length) {
            return NONE;
        }
        told.length = n;
        return n;
    }

    public int text(int sort, int at) {
        told.fault = 0;
        told.place = NONE;
        int length = told.length;
        told.length = 0;
        int number = numberOfText(sort, at);
        if (number == NO_SUCH) {
            return NO_SUCH;
        }
        boolean sound = reader.reads(told.tape, length, sort);
        if (!sound) {
            told.fault = reader.fault;
            told.place = reader.place;
            return NONE;
        }
        told.keep(reader, sort, number);
        return number;
    }

    private int numberOfText(int sort, int at) {
        if (sort < 0 || sort >= SORTS) {
            return NO_SUCH;
        }
        if (at == NONE) {
            return told.counts[sort] < MOST_OF_A_SORT ? told.counts[sort] : NO_SUCH;
        }
        return told.has(sort, at) ? at : NO_SUCH;
    }

    public int fault(int what) {
        if (what == 0) {
            return told.fault;
        }
        return what == 1 ? told.place : NONE;
    }

    public int count(int sort) {
        return sort >= 0 && sort < SORTS ? told.counts[sort] : NO_SUCH;
    }

    public boolean image(int k) {
        if (k < 0 || k >= IMAGES) {
            return false;
        }
        images[k].copy(told);
        kept[k] = true;
        return true;
    }

    public boolean again(int k) {
        if (k < 0 || k >= IMAGES || !kept[k]) {
            return false;
        }
        told.copy(images[k]);
        return true;
    }

    // ---- fells ----

    public int fell(int fell, int what) {
        return told.has(FELLS, fell) ? told.fells[fell].answer(what) : NONE;
    }

    private boolean hasBeast(int fell, int beast) {
        return told.has(FELLS, fell) && beast >= 0 && beast < told.fells[fell].beasts;
    }

    public int shy(int fell, int beast) {
        if (!hasBeast(fell, beast)) {
            return NONE;
        }
        Fell of = told.fells[fell];
        flock.begin(of);
        flock.goes(beast);
        return of.numberOf(flock.at[beast]);
    }

    public int driven(int fell, int beast, int what) {
        if (!hasBeast(fell, beast) || what < 0 || what > 2) {
            return NONE;
        }
        seek(fell, beast);
        if (what == 0) {
            return chase.goings;
        }
        return what == 1 ? chase.first : chase.reach;
    }

    private void seek(int fell, int beast) {
        scratch.copy(told.fells[fell]);
        scratch.leaveAlone(beast);
        flock.begin(scratch);
        chase.seek(flock);
    }

    public long heard(int fell, int beast, int h, boolean under) {
        if (!hasBeast(fell, beast) || h < 1 || h > 10) {
            return NONE;
        }
        seek(fell, beast);
        if (chase.goings == NONE) {
            return NONE;
        }
        return leastTerms(10L * chase.goings, h, under);
    }

    public int safe(int fell, boolean least) {
        if (!told.has(FELLS, fell)) {
            return NO_SUCH;
        }
        Fell of = told.fells[fell];
        flock.begin(of);
        int many = 0;
        int first = NONE;
        for (int c = 0; c < ALL_CELLS; c++) {
            if (!of.isPlaceForDog(c)) {
                continue;
            }
            flock.dog = c;
            if (flock.wouldGo() == 0) {
                many++;
                first = first == NONE ? c : first;
            }
        }
        return least ? of.numberOf(first) : many;
    }

    public int nearest(int fell, int cell, boolean steps) {
        if (!told.has(FELLS, fell)) {
            return NONE;
        }
        Fell of = told.fells[fell];
        int from = of.cellOf(cell);
        if (from == NONE || of.isWall(from)) {
            return NONE;
        }
        walk.from(of, from);
        int best = NONE;
        int fewest = Walk.NEVER;
        for (int b = 0; b < of.beasts; b++) {
            int far = walk.steps[of.cell[b]];
            if (far < fewest) {
                best = b;
                fewest = far;
            }
        }
        if (best == NONE) {
            return NONE;
        }
        return steps ? fewest : best;
    }

    public int middle(int fell, boolean steps) {
        if (!told.has(FELLS, fell)) {
            return NONE;
        }
        Fell of = told.fells[fell];
        flock.begin(of);
        int best = NONE;
        int fewest = 0;
        for (int c = 0; c < ALL_CELLS; c++) {
            if (!of.isInside(c) || of.isWall(c)) {
                continue;
            }
            int together = flock.stepsTo(c);
            if (best == NONE || together < fewest) {
                best = c;
                fewest = together;
            }
        }
        return steps ? fewest : of.numberOf(best);
    }

    public int post(int fell, int beast, int direction, boolean many) {
        if (!hasBeast(fell, beast) || direction < 0 || direction >= DIRECTIONS) {
            return NO_SUCH;
        }
        Fell of = told.fells[fell];
        flock.begin(of);
        int number = 0;
        int first = NONE;
        for (int c = 0; c < ALL_CELLS; c++) {
            if (!of.isPlaceForDog(c)) {
                continue;
            }
            flock.dog = c;
            if (flock.wayDriven(beast) == direction) {
                number++;
                first = first == NONE ? c : first;
            }
        }
        return many ? number : of.numberOf(first);
    }

    public int cornered(int fell) {
        if (!told.has(FELLS, fell)) {
            return NONE;
        }
        Fell of = told.fells[fell];
        flock.begin(of);
        int stay = (1 << of.beasts) - 1;
        for (int c = 0; c < ALL_CELLS; c++) {
            if (of.isPlaceForDog(c)) {
                flock.dog = c;
                stay &= ~flock.wouldGo();
            }
        }
        return stay;
    }

    public int lined(int fell, int k) {
        if (!hasBeast(fell, k)) {
            return NONE;
        }
        Fell of = told.fells[fell];
        walk.from(of, of.pen);
        for (int b = 0; b < of.beasts; b++) {
            if (aheadInLine(of, b) == k) {
                return b;
            }
        }
        return NONE;
    }

    private int aheadInLine(Fell of, int beast) {
        int own = walk.steps[of.cell[beast]];
        int ahead = 0;
        for (int b = 0; b < of.beasts; b++) {
            int other = walk.steps[of.cell[b]];
            if (other < own || other == own && b < beast) {
                ahead++;
            }
        }
        return ahead;
    }

    public int greedy(int fell, int n, int what) {
        if (!told.has(FELLS, fell) || n < 0 || n > MOST_GREEDY || what < 0 || what > 2) {
            return NONE;
        }
        Fell of = told.fells[fell];
        flock.begin(of);
        for (int i = 0; i < n; i++) {
            if (!goesGreedily(of)) {
                break;
            }
        }
        if (what == 0) {
            return flock.penned;
        }
        return what == 1 ? flock.stepsTo(of.pen) : of.numberOf(flock.dog);
    }

    private boolean goesGreedily(Fell of) {
        boolean can = false;
        int fewest = 0;
        for (int d = 0; d < DIRECTIONS; d++) {
            trial.copy(flock);
            if (!trial.obeys(d)) {
                continue;
            }
            int together = trial.stepsTo(of.pen);
            if (!can || together < fewest) {
                can = true;
                fewest = together;
                chosen.copy(trial);
            }
        }
        if (can) {
            flock.copy(chosen);
        }
        return can;
    }

    public int stir(int fell, boolean many) {
        if (!told.has(FELLS, fell)) {
            return NONE;
        }
        Fell of = told.fells[fell];
        int best = NONE;
        int most = NONE;
        for (int c = 0; c < ALL_CELLS; c++) {
            if (!of.isPlaceForDog(c)) {
                continue;
            }
            flock.begin(of);
            flock.dog = c;
            int going = flock.allGo();
            if (going > most) {
                best = c;
                most = going;
            }
        }
        return many ? most : of.numberOf(best);
    }

    // ---- drives ----

    public int whistle(int drive, int k, int what) {
        return told.has(DRIVES, drive) ? told.drives[drive].answer(k, what) : NO_SUCH;
    }

    private boolean hasBoth(int fell, int drive) {
        return told.has(FELLS, fell) && told.has(DRIVES, drive);
    }

    public int till(int fell, int drive) {
        if (!hasBoth(fell, drive)) {
            return NONE;
        }
        flock.begin(told.fells[fell]);
        return flock.follows(told.drives[drive], MOST_WHISTLES);
    }

    public int state(int fell, int drive, int n, int what) {
        if (!hasBoth(fell, drive)) {
            return NO_SUCH;
        }
        flock.begin(told.fells[fell]);
        return flock.follows(told.drives[drive], n) == n ? flock.answer(what) : NO_SUCH;
    }

    public int caught(int fell, int drive, int beast) {
        if (!hasBoth(fell, drive) || !hasBeast(fell, beast)) {
            return NONE;
        }
        Drive by = told.drives[drive];
        flock.begin(told.fells[fell]);
        for (int i = 0; i < by.whistles; i++) {
            if (!flock.obeys(by.whistle[i])) {
                return NONE;
            }
            if (flock.isPenned(beast)) {
                return i + 1;
            }
        }
        return NONE;
    }

    public int spread(int fell, int drive, int n) {
        if (!hasBoth(fell, drive) || told.fells[fell].beasts < 2) {
            return NONE;
        }
        flock.begin(told.fells[fell]);
        return flock.follows(told.drives[drive], n) == n ? flock.widest() : NONE;
    }

    public int thrice(int fell, int drive) {
        if (!hasBoth(fell, drive)) {
            return NONE;
        }
        Drive by = told.drives[drive];
        flock.begin(told.fells[fell]);
        for (int times = 0; times < 3; times++) {
            if (flock.follows(by, by.whistles) < by.whistles) {
                return times;
            }
        }
        return 3;
    }

    public int drawn(int fell, int seed, int n, int what) {
        if (!told.has(FELLS, fell) || n < 0 || n > MOST_DRAWN) {
            return NO_SUCH;
        }
        flock.begin(told.fells[fell]);
        int x = seed;
        for (int i = 0; i < n; i++) {
            x = nextSeed(x);
            int sign = (x >>> 16) % 8;
            if (sign < 5) {
                x = nextSeed(x);
                flock.obeys((x >>> 16) % DIRECTIONS);
            } else {
                flock.obeys(LIE + sign - 5);
            }
        }
        return flock.answer(what);
    }

    private static int nextSeed(int x) {
        return x * 1103515245 + 12345;
    }

    // ---- books ----

    public int book(int book, int what) {
        return told.has(BOOKS, book) ? told.books[book].answer(what) : NONE;
    }

    public int notary(int book, int k) {
        if (!told.has(BOOKS, book)) {
            return NONE;
        }
        Book of = told.books[book];
        if (k == NONE) {
            return notaries.most(of, NONE);
        }
        if (k < 0 || k >= of.bargains) {
            return NONE;
        }
        notaries.assign(of);
        return notaries.row[k];
    }

    public int dear(int book, int dog) {
        if (!told.has(BOOKS, book) || dog < 0 || dog >= told.books[book].dogs) {
            return NONE;
        }
        Book of = told.books[book];
        return notaries.most(of, NONE) - notaries.most(of, dog);
    }

    public int idle(int book) {
        if (!told.has(BOOKS, book)) {
            return NONE;
        }
        Book of = told.books[book];
        notaries.assign(of);
        int bits = (1 << of.dogs) - 1;
        for (int b = 0; b < of.bargains; b++) {
            bits &= ~(1 << notaries.row[b]);
        }
        return bits;
    }

    public int parted(int book, int n, int k) {
        if (!told.has(BOOKS, book) || n < 1 || n > Notaries.MOST_PARTS || k < NONE || k > n - 2) {
            return NONE;
        }
        return notaries.part(told.books[book], n, k);
    }

    public int run(int book, int m, boolean worth) {
        if (!told.has(BOOKS, book) || m < 1 || m > told.books[book].fields) {
            return NONE;
        }
        Book of = told.books[book];
        int best = NONE;
        int most = NONE;
        for (int f = 0; f + m <= of.fields; f++) {
            int together = of.together(f, f + m);
            if (together > most) {
                best = f;
                most = together;
            }
        }
        return worth ? most : best;
    }

    // ---- logs ----

    public int fact(int log, int k, int what) {
        return told.has(LOGS, log) ? told.logs[log].answer(k, what) : NO_SUCH;
    }

    public int fits(int log, int what) {
        if (!told.has(LOGS, log)) {
            return NO_SUCH;
        }
        long fitting = fitting(told.logs[log]);
        if (what == 0) {
            return Long.bitCount(fitting);
        }
        if (what == 1 || what == 2) {
            return sure(fitting, what == 2);
        }
        int which = what >= 10 ? bitOf(fitting, what - 10) : NONE;
        return which == NONE ? NO_SUCH : which;
    }

    /** Bit 9 * kind + eye - 1 of each that fits. */
    private long fitting(Log log) {
        long bits = 0;
        for (int code = 0; code < KINDS * EYES; code++) {
            if (fitsEach(log, code)) {
                bits |= 1L << code;
            }
        }
        return bits;
    }

    private boolean fitsEach(Log log, int code) {
        for (int k = 0; k < log.facts; k++) {
            if (cellBehindMinute(code, log.beast[k], log.dog[k]) != log.cellTold(k, scratch)) {
                return false;
            }
        }
        return true;
    }

    private int cellBehindMinute(int code, int beast, int dog) {
        scratch.open(code, beast, dog);
        flock.begin(scratch);
        flock.goes(0);
        return flock.at[0];
    }

    /** The one kind (or eye) of all that fit, or NONE. */
    private static int sure(long fitting, boolean ofEye) {
        int one = NONE;
        for (int code = 0; code < KINDS * EYES; code++) {
            if ((fitting >> code & 1) == 0) {
                continue;
            }
            int own = ofEye ? code % EYES + 1 : code / EYES;
            if (one != NONE && one != own) {
                return NONE;
            }
            one = own;
        }
        return one;
    }

    private static int bitOf(long bits, int k) {
        int ahead = 0;
        for (int i = 0; i < KINDS * EYES; i++) {
            if ((bits >> i & 1) == 0) {
                continue;
            }
            if (ahead == k) {
                return i;
            }
            ahead++;
        }
        return NONE;
    }

    public int ask(int log, int cell) {
        if (!told.has(LOGS, log) || cell < 0 || cell >= ALL_CELLS) {
            return NONE;
        }
        long fitting = fitting(told.logs[log]);
        if (fitting == 0) {
            return NONE;
        }
        int best = NONE;
        int fewest = 0;
        for (int dog = 0; dog < ALL_CELLS; dog++) {
            if (dog == cell) {
                continue;
            }
            int alike = mostAlike(fitting, cell, dog);
            if (best == NONE || alike < fewest) {
                best = dog;
                fewest = alike;
            }
        }
        return best;
    }

    /** The greatest number of those that fit by which the beast ends in the same cell. */
    private int mostAlike(long fitting, int cell, int dog) {
        int[] ended = walk.steps;
        Arrays.fill(ended, 0);
        int most = 0;
        for (int code = 0; code < KINDS * EYES; code++) {
            if ((fitting >> code & 1) != 0) {
                int to = cellBehindMinute(code, cell, dog);
                ended[to]++;
                most = Math.max(most, ended[to]);
            }
        }
        return most;
    }

    public int would(int log, int cell, int dog, int k) {
        if (!told.has(LOGS, log) || cell < 0 || cell >= ALL_CELLS || dog < 0 || dog >= ALL_CELLS || cell == dog) {
            return NONE;
        }
        int code = bitOf(fitting(told.logs[log]), k);
        return code == NONE ? NONE : cellBehindMinute(code, cell, dog);
    }

    // ---- holding and fog ----

    public int holding(int a, int b, int k) {
        if (a < 0 || a > MOST_WORTH || b < 0 || b > MOST_WORTH || k < NONE) {
            return NONE;
        }
        int rests = 0;
        for (int couple = 0; couple < 100; couple++) {
            if (!rests(a, b, couple / 10, couple % 10)) {
                continue;
            }
            if (rests == k) {
                return couple;
            }
            rests++;
        }
        return k == NONE ? rests : NONE;
    }

    private static boolean rests(int a, int b, int x, int y) {
        for (int other = 0; other <= MOST_DAYS; other++) {
            if (firstWins(a, other, y) > firstWins(a, x, y) || secondWins(b, x, other) > secondWins(b, x, y)) {
                return false;
            }
        }
        return true;
    }

    private static int firstWins(int worth, int x, int y) {
        return (x >= y ? worth : 0) - Math.min(x, y);
    }

    private static int secondWins(int worth, int x, int y) {
        return (y > x ? worth : 0) - Math.min(x, y);
    }

    public int reply(int worth, int y) {
        if (worth < 0 || worth > MOST_WORTH || y < 0 || y > MOST_DAYS) {
            return NONE;
        }
        int best = 0;
        for (int x = 1; x <= MOST_DAYS; x++) {
            if (firstWins(worth, x, y) > firstWins(worth, best, y)) {
                best = x;
            }
        }
        return best;
    }

    public long fog(int w, int p, int n, int what) {
        if (w < 0 || w > MOST_WORTH || p < 0 || p > 10 || n < 1 || n > MOST_DAYS || what < 0 || what > 2) {
            return NONE;
        }
        if (what == 2) {
            return soon(p);
        }
        long won = 0;
        long foggy = 1;
        long all = 1;
        for (int day = 0; day < n; day++) {
            won = won * 10 + foggy * (10 - p) * Math.max(0, w - day);
            foggy *= p;
            all *= 10;
        }
        return leastTerms(won, all, what == 1);
    }

    private static int soon(int p) {
        long foggy = 1;
        long all = 1;
        for (int days = 1; days <= MOST_DAYS; days++) {
            foggy *= p;
            all *= 10;
            if (foggy * 10 <= all) {
                return days;
            }
        }
        return NONE;
    }

    /** Above or under the line of a fraction that is not below 0, in least terms. */
    private static long leastTerms(long above, long below, boolean under) {
        long divisor = below;
        long rest = above;
        // two numbers of 64 bits have less than a hundred rests
        for (int i = 0; i < 100 && rest > 0; i++) {
            long next = divisor % rest;
            divisor = rest;
            rest = next;
        }
        if (divisor < 1) {
            return NONE;
        }
        return (under ? below : above) / divisor;
    }

    // ---- what is told ----

    /** A line of a text: its sort, what it does there, its word, and of each number of it a sign for its range. */
    private enum Line {
        EWE(FELLS, 0, "ewe", "cc"),
        RAM(FELLS, 1, "ram", "cc"),
        BOLTER(FELLS, 2, "bolter", "cc"),
        GOOSE(FELLS, 3, "goose", "cc"),
        WALL(FELLS, 4, "wall", "cc"),
        PEN(FELLS, 5, "pen", "cc"),
        SIZE(FELLS, 6, "size", "ss"),
        DOG(FELLS, 7, "dog", "cce"),
        GO(DRIVES, 0, "go", "d"),
        LIE(DRIVES, DogNotary.LIE, "lie", ""),
        STAND(DRIVES, DogNotary.STAND, "stand", ""),
        BACK(DRIVES, DogNotary.BACK, "back", ""),
        HELPER(BOOKS, 0, "dog", "ed"),
        BARGAIN(BOOKS, 1, "bargain", "ew"),
        FIELD(BOOKS, 2, "field", "w"),
        WENT(LOGS, DogNotary.WENT, "went", "cccrd"),
        TWICE(LOGS, DogNotary.TWICE, "twice", "cccrd"),
        STAYED(LOGS, DogNotary.STAYED, "stayed", "cccr");

        final int sort;
        final int code;
        final String word;
        final String ranges;

        Line(int sort, int code, String word, String ranges) {
            this.sort = sort;
            this.code = code;
            this.word = word;
            this.ranges = ranges;
        }
    }

    private static final Line[] LINES = Line.values();

    private static final class Fell {
        int wide;
        int high;
        int pen;
        int dog;
        int eye;
        int beasts;
        long walls;
        /** Each cell that a line told of (bits), also one whose pen or dog a later line struck. */
        private long toldOf;
        final int[] kind;
        final int[] cell;

        Fell() {
            kind = new int[MOST_BEASTS];
            cell = new int[MOST_BEASTS];
            clear();
        }

        private void clear() {
            wide = 6;
            high = 6;
            pen = 0;
            dog = SIDE + 1;
            eye = 3;
            beasts = 0;
            walls = 0;
            toldOf = 0;
        }

        void copy(Fell from) {
            wide = from.wide;
            high = from.high;
            pen = from.pen;
            dog = from.dog;
            eye = from.eye;
            beasts = from.beasts;
            walls = from.walls;
            toldOf = from.toldOf;
            System.arraycopy(from.kind, 0, kind, 0, MOST_BEASTS);
            System.arraycopy(from.cell, 0, cell, 0, MOST_BEASTS);
        }

        void leaveAlone(int beast) {
            kind[0] = kind[beast];
            cell[0] = cell[beast];
            beasts = 1;
        }

        /** The fell of a log: 8 by 8, one beast, no wall, no pen. */
        void open(int code, int beast, int dogCell) {
            wide = SIDE;
            high = SIDE;
            walls = 0;
            pen = NONE;
            dog = dogCell;
            eye = code % EYES + 1;
            beasts = 1;
            kind[0] = code / EYES;
            cell[0] = beast;
        }

        void keep(int code, int[] numbers) {
            if (code == Line.SIZE.code) {
                wide = numbers[0];
                high = numbers[1];
                return;
            }
            int at = SIDE * numbers[1] + numbers[0];
            toldOf |= 1L << at;
            if (code < KINDS) {
                addBeast(code, at);
            } else if (code == Line.WALL.code) {
                walls |= 1L << at;
            } else if (code == Line.PEN.code) {
                pen = at;
            } else {
                dog = at;
                eye = numbers[2];
            }
        }

        private void addBeast(int ofKind, int at) {
            if (beasts < MOST_BEASTS) {
                kind[beasts] = ofKind;
                cell[beasts] = at;
                beasts++;
            }
        }

        /** The fault of the fell as a whole: 4, 5, or 0 without. */
        int flaw() {
            for (int c = 0; c < ALL_CELLS; c++) {
                if ((toldOf >>> c & 1) != 0 && !isInside(c)) {
                    return 4;
                }
            }
            boolean apart = pen != dog && !isWall(pen) && !isWall(dog);
            for (int b = 0; b < beasts; b++) {
                int own = cell[b];
                apart &= own != pen && own != dog && !isWall(own) && beastAt(own) == b;
            }
            return apart ? 0 : 5;
        }

        boolean isInside(int c) {
            return c >= 0 && c % SIDE < wide && c / SIDE < high;
        }

        boolean isWall(int c) {
            return (walls >>> c & 1) != 0;
        }

        /** The first beast that was told to be in a cell, or NONE. */
        int beastAt(int c) {
            for (int b = 0; b < beasts; b++) {
                if (cell[b] == c) {
                    return b;
                }
            }
            return NONE;
        }

        boolean isPlaceForDog(int c) {
            return isInside(c) && !isWall(c) && c != pen && beastAt(c) == NONE;
        }

        /** The cell next to one, if it is there and no wall; else NONE. */
        int next(int c, int direction) {
            int column = c % SIDE;
            int row = c / SIDE;
            if (direction == 0) {
                row--;
            } else if (direction == 1) {
                column++;
            } else if (direction == 2) {
                row++;
            } else {
                column--;
            }
            if (column < 0 || column >= wide || row < 0 || row >= high) {
                return NONE;
            }
            int to = SIDE * row + column;
            return (walls >>> to & 1) != 0 ? NONE : to;
        }

        /** The number by which the document knows a cell. */
        int numberOf(int c) {
            return c == NONE ? NONE : wide * (c / SIDE) + c % SIDE;
        }

        int cellOf(int number) {
            if (wide < 1 || number < 0 || number >= wide * high) {
                return NONE;
            }
            return SIDE * (number / wide) + number % wide;
        }

        int answer(int what) {
            switch (what) {
                case 0:
                    return wide;
                case 1:
                    return high;
                case 2:
                    return numberOf(pen);
                case 3:
                    return numberOf(dog);
                case 4:
                    return eye;
                case 5:
                    return beasts;
                default:
                    return answerOfOne(what);
            }
        }

        private int answerOfOne(int what) {
            if (what >= 10 && what < 10 + beasts) {
                return kind[what - 10];
            }
            if (what >= 20 && what < 20 + beasts) {
                return numberOf(cell[what - 20]);
            }
            int c = what >= 100 ? cellOf(what - 100) : NONE;
            if (c == NONE) {
                return NONE;
            }
            return isWall(c) ? 1 : 0;
        }
    }

    private static final class Drive {
        int whistles;
        final int[] whistle;

        Drive() {
            whistle = new int[MOST_WHISTLES];
        }

        void copy(Drive from) {
            whistles = from.whistles;
            System.arraycopy(from.whistle, 0, whistle, 0, MOST_WHISTLES);
        }

        void keep(int code, int[] numbers) {
            if (whistles < MOST_WHISTLES) {
                whistle[whistles] = code < LIE ? numbers[0] : code;
                whistles++;
            }
        }

        int answer(int k, int what) {
            if (k == NONE && what == 0) {
                return whistles;
            }
            if (k < 0 || k >= whistles || what < 0 || what > 1) {
                return NO_SUCH;
            }
            boolean going = whistle[k] < LIE;
            if (what == 0) {
                return going ? 0 : whistle[k] - LIE + 1;
            }
            return going ? whistle[k] : NONE;
        }
    }

    private static final class Book {
        int dogs;
        int bargains;
        int fields;
        final int[] eye;
        final int[] turns;
        final int[] need;
        final int[] worth;
        final int[] field;

        Book() {
            eye = new int[MOST_DOGS];
            turns = new int[MOST_DOGS];
            need = new int[MOST_BARGAINS];
            worth = new int[MOST_BARGAINS];
            field = new int[MOST_FIELDS];
        }

        void clear() {
            dogs = 0;
            bargains = 0;
            fields = 0;
        }

        void copy(Book from) {
            dogs = from.dogs;
            bargains = from.bargains;
            fields = from.fields;
            System.arraycopy(from.eye, 0, eye, 0, MOST_DOGS);
            System.arraycopy(from.turns, 0, turns, 0, MOST_DOGS);
            System.arraycopy(from.need, 0, need, 0, MOST_BARGAINS);
            System.arraycopy(from.worth, 0, worth, 0, MOST_BARGAINS);
            System.arraycopy(from.field, 0, field, 0, MOST_FIELDS);
        }

        void keep(int code, int[] numbers) {
            if (code == Line.HELPER.code && dogs < MOST_DOGS) {
                eye[dogs] = numbers[0];
                turns[dogs] = numbers[1];
                dogs++;
            } else if (code == Line.BARGAIN.code && bargains < MOST_BARGAINS) {
                need[bargains] = numbers[0];
                worth[bargains] = numbers[1];
                bargains++;
            } else if (code == Line.FIELD.code && fields < MOST_FIELDS) {
                field[fields] = numbers[0];
                fields++;
            }
        }

        boolean isFull(int code) {
            if (code == Line.HELPER.code) {
                return dogs >= MOST_DOGS;
            }
            return code == Line.BARGAIN.code ? bargains >= MOST_BARGAINS : fields >= MOST_FIELDS;
        }

        /** The worth of the fields from one on, ahead of another one. */
        int together(int from, int till) {
            int sum = 0;
            for (int f = Math.max(0, from); f < till && f < fields; f++) {
                sum += field[f];
            }
            return sum;
        }

        int answer(int what) {
            if (what == 0) {
                return dogs;
            }
            if (what == 1) {
                return bargains;
            }
            if (what == 2) {
                return fields;
            }
            if (what >= 10 && what < 10 + dogs) {
                return eye[what - 10];
            }
            if (what >= 20 && what < 20 + dogs) {
                return turns[what - 20];
            }
            if (what >= 30 && what < 30 + bargains) {
                return need[what - 30];
            }
            if (what >= 40 && what < 40 + bargains) {
                return worth[what - 40];
            }
            return what >= 50 && what < 50 + fields ? field[what - 50] : NONE;
        }
    }

    private static final class Log {
        int facts;
        final int[] did;
        final int[] beast;
        final int[] dog;
        final int[] direction;

        Log() {
            did = new int[MOST_FACTS];
            beast = new int[MOST_FACTS];
            dog = new int[MOST_FACTS];
            direction = new int[MOST_FACTS];
        }

        void copy(Log from) {
            facts = from.facts;
            System.arraycopy(from.did, 0, did, 0, MOST_FACTS);
            System.arraycopy(from.beast, 0, beast, 0, MOST_FACTS);
            System.arraycopy(from.dog, 0, dog, 0, MOST_FACTS);
            System.arraycopy(from.direction, 0, direction, 0, MOST_FACTS);
        }

        void keep(int code, int[] numbers) {
            if (facts < MOST_FACTS) {
                did[facts] = code;
                beast[facts] = SIDE * numbers[1] + numbers[0];
                dog[facts] = SIDE * numbers[3] + numbers[2];
                direction[facts] = code == STAYED ? NONE : numbers[4];
                facts++;
            }
        }

        /** Where the beast was behind the minute of a fact; NONE if no cell is there. */
        int cellTold(int k, Fell open) {
            if (did[k] == STAYED) {
                return beast[k];
            }
            int to = open.next(beast[k], direction[k]);
            return did[k] == WENT || to == NONE ? to : open.next(to, direction[k]);
        }

        int answer(int k, int what) {
            if (k == NONE && what == 0) {
                return facts;
            }
            if (k < 0 || k >= facts) {
                return NO_SUCH;
            }
            switch (what) {
                case 0:
                    return did[k];
                case 1:
                    return beast[k];
                case 2:
                    return dog[k];
                case 3:
                    return direction[k];
                default:
                    return NO_SUCH;
            }
        }
    }

    /** All that an image has. */
    private static final class Told {
        final byte[] tape;
        int length;
        int fault;
        int place;
        final int[] counts;
        final Fell[] fells;
        final Drive[] drives;
        final Book[] books;
        final Log[] logs;

        Told() {
            tape = new byte[MOST_BYTES];
            place = NONE;
            counts = new int[SORTS];
            fells = new Fell[MOST_OF_A_SORT];
            drives = new Drive[MOST_OF_A_SORT];
            books = new Book[MOST_OF_A_SORT];
            logs = new Log[MOST_OF_A_SORT];
            for (int i = 0; i < MOST_OF_A_SORT; i++) {
                fells[i] = new Fell();
                drives[i] = new Drive();
                books[i] = new Book();
                logs[i] = new Log();
            }
        }

        void copy(Told from) {
            length = from.length;
            fault = from.fault;
            place = from.place;
            System.arraycopy(from.tape, 0, tape, 0, MOST_BYTES);
            System.arraycopy(from.counts, 0, counts, 0, SORTS);
            for (int i = 0; i < MOST_OF_A_SORT; i++) {
                fells[i].copy(from.fells[i]);
                drives[i].copy(from.drives[i]);
                books[i].copy(from.books[i]);
                logs[i].copy(from.logs[i]);
            }
        }

        void append(int four) {
            for (int shift = 24; shift >= 0 && length < MOST_BYTES; shift -= 8) {
                tape[length] = (byte) (four >> shift);
                length++;
            }
        }

        boolean has(int sort, int number) {
            return number >= 0 && number < counts[sort];
        }

        void keep(Reader reader, int sort, int number) {
            if (sort == FELLS) {
                fells[number].copy(reader.fell);
            } else if (sort == DRIVES) {
                drives[number].copy(reader.drive);
            } else if (sort == BOOKS) {
                books[number].copy(reader.book);
            } else {
                logs[number].copy(reader.log);
            }
            counts[sort] = Math.max(counts[sort], number + 1);
        }
    }

    /** Reads one text into drafts of its own, so that a text with a fault changes nothing. */
    private static final class Reader {
        private static final int THE_END = 0;
        private static final int WORD = 1;
        private static final int NUMBER = 2;
        private static final int SEMICOLON = 3;
        private static final int NO_TOKEN = 4;

        final Fell fell;
        final Drive drive;
        final Book book;
        final Log log;
        int fault;
        int place;
        private final int[] numbers;
        private byte[] tape;
        private int length;
        private int at;
        private int token;
        private int start;
        private int value;

        Reader() {
            fell = new Fell();
            drive = new Drive();
            book = new Book();
            log = new Log();
            numbers = new int[5];
            tape = new byte[0];
        }

        /** Whether the bytes are a text of a sort without a fault. */
        boolean reads(byte[] bytes, int n, int sort) {
            tape = bytes;
            length = Math.min(n, bytes.length);
            at = 0;
            fault = 0;
            place = NONE;
            clearDrafts();
            // each line takes a byte at least
            for (int lines = 0; lines <= length && fault != 1; lines++) {
                readToken();
                if (token == THE_END) {
                    break;
                }
                readLine(sort);
            }
            if (fault == 0 && sort == FELLS && fell.flaw() != 0) {
                note(fell.flaw(), length);
            }
            return fault == 0;
        }

        private void clearDrafts() {
            fell.clear();
            drive.whistles = 0;
            book.clear();
            log.facts = 0;
        }

        private void readLine(int sort) {
            Line line = lineAt(sort);
            if (line == null) {
                breakOff();
                return;
            }
            if (isFull(line)) {
                note(3, start);
            }
            for (int i = 0; i < line.ranges.length() && i < numbers.length; i++) {
                readToken();
                if (token != NUMBER) {
                    breakOff();
                    return;
                }
                numbers[i] = value;
                if (!canBe(line.ranges.charAt(i))) {
                    note(2, start);
                }
            }
            readToken();
            if (token != SEMICOLON) {
                breakOff();
            } else if (fault == 0) {
                keep(line);
            }
        }

        private Line lineAt(int sort) {
            if (token != WORD) {
                return null;
            }
            for (Line line : LINES) {
                if (line.sort == sort && isWord(line.word)) {
                    return line;
                }
            }
            return null;
        }

        private boolean isWord(String word) {
            if (word.length() != at - start) {
                return false;
            }
            for (int i = 0; i < word.length(); i++) {
                if (tape[start + i] != word.charAt(i)) {
                    return false;
                }
            }
            return true;
        }

        private boolean isFull(Line line) {
            if (line.sort == FELLS) {
                return line.code < KINDS && fell.beasts >= MOST_BEASTS;
            }
            if (line.sort == DRIVES) {
                return drive.whistles >= MOST_WHISTLES;
            }
            return line.sort == BOOKS ? book.isFull(line.code) : log.facts >= MOST_FACTS;
        }

        private boolean canBe(char range) {
            if (range == 's') {
                return value >= 2 && value <= SIDE;
            }
            if (range == 'e') {
                return value >= 1 && value <= EYES;
            }
            if (range == 'd') {
                return value < DIRECTIONS;
            }
            if (range == 'c') {
                return value < SIDE;
            }
            if (range == 'r') {
                return value < SIDE && (numbers[0] != numbers[2] || numbers[1] != numbers[3]);
            }
            return true;
        }

        private void keep(Line line) {
            if (line.sort == FELLS) {
                fell.keep(line.code, numbers);
            } else if (line.sort == DRIVES) {
                drive.keep(line.code, numbers);
            } else if (line.sort == BOOKS) {
                book.keep(line.code, numbers);
            } else {
                log.keep(line.code, numbers);
            }
        }

        /** The text goes from left to right, so the fault that is noted first is the first by place. */
        private void note(int which, int where) {
            if (fault == 0) {
                fault = which;
                place = where;
            }
        }

        private void breakOff() {
            fault = 1;
            place = start;
        }

        private void readToken() {
            while (at < length && (tape[at] == 10 || tape[at] == 32)) {
                at++;
            }
            start = at;
            if (at >= length) {
                token = THE_END;
            } else if (tape[at] == ';') {
                at++;
                token = SEMICOLON;
            } else if (isLetter(tape[at])) {
                readWord();
            } else if (isDigit(tape[at])) {
                readNumber();
            } else {
                token = NO_TOKEN;
            }
        }

        private static boolean isLetter(byte sign) {
            return sign >= 'a' && sign <= 'z';
        }

        private static boolean isDigit(byte sign) {
            return sign >= '0' && sign <= '9';
        }

        private void readWord() {
            while (at < length && isLetter(tape[at])) {
                at++;
            }
            token = WORD;
        }

        private void readNumber() {
            value = 0;
            while (at < length && isDigit(tape[at])) {
                value = value * 10 + tape[at] - '0';
                at++;
            }
            token = at - start <= 2 ? NUMBER : NO_TOKEN;
        }
    }

    // ---- how beasts and the dog go ----

    /** The dog and the beasts of a fell, as they stand at a minute. */
    private static final class Flock {
        Fell fell;
        int dog;
        int penned;
        final int[] at;
        private boolean lies;
        private boolean back;
        private int minute;
        private final int[] went;

        Flock() {
            fell = new Fell();
            at = new int[MOST_BEASTS];
            went = new int[MOST_BEASTS];
        }

        void begin(Fell of) {
            fell = of;
            dog = of.dog;
            penned = 0;
            lies = false;
            back = false;
            minute = 0;
            System.arraycopy(of.cell, 0, at, 0, MOST_BEASTS);
            Arrays.fill(went, 0);
        }

        void copy(Flock from) {
            fell = from.fell;
            dog = from.dog;
            penned = from.penned;
            lies = from.lies;
            back = from.back;
            minute = from.minute;
            System.arraycopy(from.at, 0, at, 0, MOST_BEASTS);
            System.arraycopy(from.went, 0, went, 0, MOST_BEASTS);
        }

        boolean isPenned(int beast) {
            return (penned >> beast & 1) != 0;
        }

        static int apart(int one, int other) {
            return Math.abs(one % SIDE - other % SIDE) + Math.abs(one / SIDE - other / SIDE);
        }

        private boolean isDriven(int beast) {
            if (lies || back || isPenned(beast)) {
                return false;
            }
            return apart(at[beast], dog) <= (fell.kind[beast] == RAM ? 1 : fell.eye);
        }

        /** By which direction a beast that is driven would go first; NONE if it would stay. */
        int wayDriven(int beast) {
            return isDriven(beast) ? wayOpen(beast) : NONE;
        }

        private int wayOpen(int beast) {
            int own = apart(at[beast], dog);
            boolean nearer = fell.kind[beast] == GOOSE;
            for (int d = 0; d < DIRECTIONS; d++) {
                int to = fell.next(at[beast], d);
                if (to == NONE || to == dog || to != fell.pen && isBeasts(to)) {
                    continue;
                }
                int then = apart(to, dog);
                if (nearer ? then < own : then > own) {
                    return d;
                }
            }
            return NONE;
        }

        private boolean isBeasts(int c) {
            for (int b = 0; b < fell.beasts; b++) {
                if (at[b] == c) {
                    return true;
                }
            }
            return false;
        }

        /** One beast has its minute; whether it went. */
        boolean goes(int beast) {
            int way = isDriven(beast) ? wayOpen(beast) : NONE;
            if (way == NONE) {
                return false;
            }
            step(beast, way);
            if (fell.kind[beast] == BOLTER && !isPenned(beast)) {
                step(beast, wayOpen(beast));
            }
            return true;
        }

        private void step(int beast, int way) {
            if (way == NONE) {
                return;
            }
            at[beast] = fell.next(at[beast], way);
            went[beast]++;
            if (at[beast] == fell.pen) {
                penned |= 1 << beast;
            }
        }

        /** A minute of all beasts, one behind the other: how many went. */
        int allGo() {
            int going = 0;
            for (int b = 0; b < fell.beasts; b++) {
                if (goes(b)) {
                    going++;
                }
            }
            return going;
        }

        /** Who would go, each for itself, all others staying (bits). */
        int wouldGo() {
            int bits = 0;
            for (int b = 0; b < fell.beasts; b++) {
                if (wayDriven(b) != NONE) {
                    bits |= 1 << b;
                }
            }
            return bits;
        }

        /** The dog goes to the cell next to his own, if he may; no minute goes by. */
        boolean dogGoes(int direction) {
            int to = fell.next(dog, direction);
            if (to == NONE || to == fell.pen || isBeasts(to)) {
                return false;
            }
            dog = to;
            lies = false;
            return true;
        }

        /** A whistle, and the minute behind it; false, and nothing goes, if it can't be. */
        boolean obeys(int whistle) {
            if (whistle < LIE) {
                if (!dogGoes(whistle)) {
                    return false;
                }
            } else if (whistle == BACK) {
                back = !back;
            } else {
                boolean down = whistle == LIE;
                if (lies == down) {
                    return false;
                }
                lies = down;
            }
            allGo();
            minute++;
            return true;
        }

        /** A drive's first n whistles, from where all are now: how many of them can be. */
        int follows(Drive drive, int n) {
            for (int i = 0; i < n && i < drive.whistles; i++) {
                if (!obeys(drive.whistle[i])) {
                    return i;
                }
            }
            return Math.max(0, Math.min(n, drive.whistles));
        }

        /** Steps from all beasts to a cell together, by columns and rows. */
        int stepsTo(int c) {
            int together = 0;
            for (int b = 0; b < fell.beasts; b++) {
                together += apart(at[b], c);
            }
            return together;
        }

        int widest() {
            int most = 0;
            for (int b = 1; b < fell.beasts; b++) {
                for (int other = 0; other < b; other++) {
                    most = Math.max(most, apart(at[b], at[other]));
                }
            }
            return most;
        }

        int answer(int what) {
            switch (what) {
                case 0:
                    return minute;
                case 1:
                    return fell.numberOf(dog);
                case 2:
                    return lies ? 1 : 0;
                case 3:
                    return back ? 1 : 0;
                case 4:
                    return penned;
                case 5:
                    return wentInAll();
                default:
                    return answerOfOne(what);
            }
        }

        private int wentInAll() {
            int sum = 0;
            for (int b = 0; b < fell.beasts; b++) {
                sum += went[b];
            }
            return sum;
        }

        private int answerOfOne(int what) {
            if (what >= 10 && what < 10 + fell.beasts) {
                return fell.numberOf(at[what - 10]);
            }
            return what >= 20 && what < 20 + fell.beasts ? went[what - 20] : NO_SUCH;
        }
    }

    /** Steps of walking from a cell by cells without walls. */
    private static final class Walk {
        static final int NEVER = 1000;

        final int[] steps;
        private final int[] queue;

        Walk() {
            steps = new int[ALL_CELLS];
            queue = new int[ALL_CELLS];
        }

        void from(Fell fell, int start) {
            Arrays.fill(steps, NEVER);
            steps[start] = 0;
            queue[0] = start;
            int tail = 1;
            for (int head = 0; head < tail && head < ALL_CELLS; head++) {
                for (int d = 0; d < DIRECTIONS; d++) {
                    int to = fell.next(queue[head], d);
                    if (to != NONE && steps[to] == NEVER && tail < ALL_CELLS) {
                        steps[to] = steps[queue[head]] + 1;
                        queue[tail] = to;
                        tail++;
                    }
                }
            }
        }
    }

    /** All that the goings of a dog can do to one beast alone, the fewest goings first. */
    private static final class Chase {
        int goings;
        int first;
        int reach;
        /** By the cell to which the dog has gone, the beast's cells (bits) from which it has had its minute. */
        private final long[] seen;
        /** That cell, the beast's (64 times), the first direction (4096 times), the goings (16384 times). */
        private final int[] queue;
        private int tail;

        Chase() {
            seen = new long[ALL_CELLS];
            queue = new int[ALL_CELLS * ALL_CELLS];
        }

        /** The flock stands as told, with one beast; it is left anywhere. */
        void seek(Flock flock) {
            goings = NONE;
            first = NONE;
            Arrays.fill(seen, 0);
            tail = 0;
            long cells = 1L << flock.at[0];
            goOn(flock, NONE, 0);
            for (int head = 0; head < tail && head < queue.length; head++) {
                int entry = queue[head];
                flock.dog = entry & 63;
                flock.at[0] = entry >> 6 & 63;
                flock.penned = 0;
                flock.goes(0);
                cells |= 1L << flock.at[0];
                int began = entry >> 12 & 3;
                if (!flock.isPenned(0)) {
                    goOn(flock, began, entry >> 14);
                } else if (goings == NONE) {
                    // entries come by goings and, among as many, by first directions: this is the least
                    goings = entry >> 14;
                    first = began;
                }
            }
            reach = Long.bitCount(cells);
        }

        /** Puts down all goings of the dog from where he is; the first ones begin by their own direction. */
        private void goOn(Flock flock, int began, int gone) {
            int from = flock.dog;
            for (int d = 0; d < DIRECTIONS; d++) {
                flock.dog = from;
                if (flock.dogGoes(d)) {
                    put(flock.dog, flock.at[0], began == NONE ? d : began, gone + 1);
                }
            }
        }

        private void put(int dog, int beast, int began, int gone) {
            if ((seen[dog] >>> beast & 1) != 0 || tail >= queue.length) {
                return;
            }
            seen[dog] |= 1L << beast;
            queue[tail] = dog | beast << 6 | began << 12 | gone << 14;
            tail++;
        }
    }

    /** What is shared out in a book. */
    private static final class Notaries {
        static final int MOST_PARTS = 5;
        private static final int NOBODY = 5;
        private static final int PLACES = MOST_FIELDS + 1;

        final int[] row;
        private final int[] turns;
        /** Of each bargain: how many turns there are by eyes that are enough for it. */
        private final int[] room;
        /** Of each bargain: those bargains (bits) that need as good an eye or a better one. */
        private final int[] rivals;
        /** By parts and the first field: the most that the least of so many parts can be worth. */
        private final int[] least;

        Notaries() {
            row = new int[MOST_BARGAINS];
            turns = new int[MOST_DOGS];
            room = new int[MOST_BARGAINS];
            rivals = new int[MOST_BARGAINS];
            least = new int[(MOST_PARTS + 1) * PLACES];
        }

        /** The most worth, without one dog (NONE: with all). */
        int most(Book book, int without) {
            System.arraycopy(book.turns, 0, turns, 0, MOST_DOGS);
            if (without >= 0 && without < MOST_DOGS) {
                turns[without] = 0;
            }
            return mostFrom(book, 0);
        }

        /** The most worth of the bargains from one on, by the turns that are left. */
        private int mostFrom(Book book, int from) {
            weighRooms(book, from);
            int most = 0;
            int sets = 1 << (book.bargains - from);
            for (int set = 0; set < sets; set++) {
                int bits = set << from;
                int worth = worthOf(book, bits);
                if (worth > most && canBeDriven(book, from, bits)) {
                    most = worth;
                }
            }
            return most;
        }

        private void weighRooms(Book book, int from) {
            for (int b = from; b < book.bargains; b++) {
                room[b] = 0;
                rivals[b] = 0;
                for (int d = 0; d < book.dogs; d++) {
                    room[b] += book.eye[d] >= book.need[b] ? turns[d] : 0;
                }
                for (int other = from; other < book.bargains; other++) {
                    rivals[b] |= book.need[other] >= book.need[b] ? 1 << other : 0;
                }
            }
        }

        private static int worthOf(Book book, int bits) {
            int worth = 0;
            for (int b = 0; b < book.bargains; b++) {
                worth += (bits >> b & 1) != 0 ? book.worth[b] : 0;
            }
            return worth;
        }

        /** Who is good enough for a bargain is so for all that need less: so it is enough to count by each need. */
        private boolean canBeDriven(Book book, int from, int bits) {
            for (int b = from; b < book.bargains; b++) {
                if (Integer.bitCount(bits & rivals[b]) > room[b]) {
                    return false;
                }
            }
            return true;
        }

        /** The first row by numbers that has the most worth. */
        void assign(Book book) {
            int left = most(book, NONE);
            for (int b = 0; b < book.bargains; b++) {
                row[b] = NOBODY;
                for (int d = 0; d < book.dogs && row[b] == NOBODY; d++) {
                    if (turns[d] < 1 || book.eye[d] < book.need[b]) {
                        continue;
                    }
                    turns[d]--;
                    if (book.worth[b] + mostFrom(book, b + 1) == left) {
                        row[b] = d;
                        left -= book.worth[b];
                    } else {
                        turns[d]++;
                    }
                }
            }
        }

        /** The worth of the least of n parts (k NONE), or where the k-th cut is. */
        int part(Book book, int n, int k) {
            for (int parts = 1; parts <= n; parts++) {
                for (int from = 0; from <= book.fields; from++) {
                    least[parts * PLACES + from] = mostOfLeast(book, parts, from);
                }
            }
            int worth = least[n * PLACES];
            if (k == NONE) {
                return worth;
            }
            int cut = 0;
            for (int i = 0; i <= k && i < n - 1; i++) {
                cut = nextCut(book, n - 1 - i, cut, worth);
            }
            return cut;
        }

        private int mostOfLeast(Book book, int parts, int from) {
            if (parts == 1) {
                return book.together(from, book.fields);
            }
            int most = 0;
            for (int cut = from; cut <= book.fields; cut++) {
                int worth = Math.min(book.together(from, cut), least[(parts - 1) * PLACES + cut]);
                most = Math.max(most, worth);
            }
            return most;
        }

        /** The first cut with a part ahead of it, and so many behind it, that are worth enough. */
        private int nextCut(Book book, int behind, int from, int worth) {
            for (int cut = from; cut <= book.fields; cut++) {
                if (book.together(from, cut) >= worth && least[behind * PLACES + cut] >= worth) {
                    return cut;
                }
            }
            return from;
        }
    }
}
