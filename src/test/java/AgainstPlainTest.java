import java.util.ArrayList;
import java.util.List;
import java.util.Random;

/** Runs of drawn calls on DogNotary and on PlainNotary side by side: every answer must be the same. */
public final class AgainstPlainTest {
    private static int wrong = 0;
    private static long calls = 0;
    private static final int[] USED = new int[40];
    private static final int[] SOUND = new int[4];
    private static final int[] FAULTS = new int[6];

    private final Random random;
    private final DogNotary x = new DogNotary();
    private final PlainNotary y = new PlainNotary();
    private final List<String> trail = new ArrayList<>();

    private AgainstPlainTest(long seed) {
        random = new Random(seed);
    }

    public static void main(String[] args) {
        int runs = args.length > 0 ? Integer.parseInt(args[0]) : 4000;
        for (int seed = 0; seed < runs && wrong < 10; seed++) {
            new AgainstPlainTest(seed).runAll();
        }
        for (int k = 1; k < USED.length; k++) {
            if (USED[k] == 0) {
                fail("no call of promise " + (k + 1) + " was drawn");
            }
        }
        for (int k = 0; k < 4; k++) {
            if (SOUND[k] == 0) {
                fail("no sound text of sort " + k + " was drawn");
            }
        }
        for (int k = 0; k < 6; k++) {
            if (FAULTS[k] == 0) {
                fail("no fault " + k + " was drawn");
            }
        }
        System.out.println(wrong == 0 ? "AgainstPlainTest: " + calls + " answers are the same" : "AgainstPlainTest: " + wrong + " wrong");
        if (wrong != 0) {
            System.exit(1);
        }
    }

    private static void fail(String s) {
        wrong++;
        System.out.println(s);
    }

    private void same(String call, long got, long want) {
        calls++;
        trail.add(call + " = " + want);
        if (got != want) {
            fail("answered " + got + ", due is " + want + ": " + call + "\n   behind " + String.join("; ", trail));
        }
    }

    private int below(int n) {
        return random.nextInt(n);
    }

    /** Mostly 0 .. n - 1, at times beside it. */
    private int near(int n) {
        int r = below(40);
        if (r == 0) {
            return -1;
        }
        if (r == 1) {
            return n;
        }
        if (r == 2) {
            return random.nextInt();
        }
        return below(Math.max(1, n));
    }

    private void runAll() {
        int n = 0;
        for (int t = 0; t < 6; t++) {
            tell(t < 4 ? t : below(4));
            n += 6;
        }
        int before = wrong;
        for (; n < 480 && wrong == before; n++) {
            int which = 1 + below(39);
            if (which <= 3) {
                if (below(3) == 0) {
                    tell(below(4));
                    n += 20;
                }
                continue;
            }
            USED[which]++;
            ask(which);
        }
    }

    private void tell(int sort) {
        String s = Texts.draw(random, sort);
        feedAll(s);
        if (below(30) == 0) {
            askImages();
        }
        int s2 = below(40) == 0 ? below(7) - 2 : sort;
        int at = below(3) - 1;
        int got = x.text(s2, at);
        if (got >= 0) {
            SOUND[s2]++;
        }
        USED[3]++;
        same("text(" + s2 + ", " + at + ") of '" + s + "'", got, y.text(s2, at));
        if (got == -1) {
            FAULTS[x.fault(0)]++;
        } else {
            FAULTS[0]++;
        }
        same("fault(0)", x.fault(0), y.fault(0));
        same("fault(1)", x.fault(1), y.fault(1));
        if (got == -2) {
            same("end(0)", x.end(0), y.end(0));
        }
    }

    private void feedAll(String s) {
        int had = y.tape.size();
        USED[1]++;
        USED[2]++;
        for (int i = 0; i < s.length(); i += 20) {
            int[] five = new int[5];
            for (int k = 0; k < 20; k++) {
                int b = i + k < s.length() ? s.charAt(i + k) : 32;
                five[k / 4] = five[k / 4] << 8 | b;
            }
            same("feed", x.feed(five[0], five[1], five[2], five[3], five[4]), y.feed(five[0], five[1], five[2], five[3], five[4]));
        }
        int end = below(50) == 0 ? random.nextInt(700) - 20 : had + s.length();
        same("end(" + end + ")", x.end(end), y.end(end));
    }

    private void askImages() {
        int k = near(3);
        same("image(" + k + ")", x.image(k) ? 1 : 0, y.image(k) ? 1 : 0);
    }

    private int what(int few, int items) {
        int r = below(6);
        if (r == 0) {
            return random.nextInt(200) - 20;
        }
        if (r == 1) {
            return near(few);
        }
        return 10 * (1 + below(2)) + near(items);
    }

    private void ask(int which) {
        int f = near(2);
        int d = near(2);
        int b = near(6);
        boolean yes = random.nextBoolean();
        switch (which) {
            case 4 -> {
                int w = near(2);
                same("fault(" + w + ")", x.fault(w), y.fault(w));
            }
            case 5 -> {
                int w = below(2) == 0 ? what(6, 6) : 100 + below(70);
                same("fell(" + f + ", " + w + ")", x.fell(f, w), y.fell(f, w));
            }
            case 6 -> {
                int k = near(20);
                int w = near(2);
                same("whistle(" + d + ", " + k + ", " + w + ")", x.whistle(d, k, w), y.whistle(d, k, w));
            }
            case 7 -> same("till(" + f + ", " + d + ")", x.till(f, d), y.till(f, d));
            case 8 -> {
                int n = near(10);
                int w = what(6, 6);
                same("state(" + f + ", " + d + ", " + n + ", " + w + ")", x.state(f, d, n, w), y.state(f, d, n, w));
            }
            case 9 -> same("shy(" + f + ", " + b + ")", x.shy(f, b), y.shy(f, b));
            case 10 -> {
                int w = near(3);
                if (below(6) == 0) {
                    same("driven(" + f + ", " + b + ", " + w + ")", x.driven(f, b, w), y.driven(f, b, w));
                }
            }
            case 11 -> {
                int h = near(11);
                if (below(6) == 0) {
                    same("heard(" + f + ", " + b + ", " + h + ", " + yes + ")", x.heard(f, b, h, yes), y.heard(f, b, h, yes));
                }
            }
            case 12 -> same("safe(" + f + ", " + yes + ")", x.safe(f, yes), y.safe(f, yes));
            case 13 -> {
                int c = near(64);
                same("nearest(" + f + ", " + c + ", " + yes + ")", x.nearest(f, c, yes), y.nearest(f, c, yes));
            }
            case 14 -> {
                int w = near(62);
                same("book(" + f + ", " + w + ")", x.book(f, w), y.book(f, w));
            }
            case 15 -> {
                int k = near(9) - 1;
                same("notary(" + f + ", " + k + ")", x.notary(f, k), y.notary(f, k));
            }
            case 16 -> {
                int n = near(6);
                int k = near(5) - 1;
                same("parted(" + f + ", " + n + ", " + k + ")", x.parted(f, n, k), y.parted(f, n, k));
            }
            case 17 -> {
                int k = near(9) - 1;
                int w = near(4);
                same("fact(" + f + ", " + k + ", " + w + ")", x.fact(f, k, w), y.fact(f, k, w));
            }
            case 18 -> {
                int w = below(2) == 0 ? near(4) : 10 + near(36);
                same("fits(" + f + ", " + w + ")", x.fits(f, w), y.fits(f, w));
            }
            case 19 -> {
                int c = near(64);
                if (below(4) == 0) {
                    same("ask(" + f + ", " + c + ")", x.ask(f, c), y.ask(f, c));
                }
            }
            case 20 -> {
                int p = near(21);
                int q = near(21);
                int k = near(12) - 1;
                same("holding(" + p + ", " + q + ", " + k + ")", x.holding(p, q, k), y.holding(p, q, k));
            }
            case 21 -> {
                int w = near(21);
                int p = near(11);
                int n = near(10);
                int what = near(3);
                same("fog(" + w + ", " + p + ", " + n + ", " + what + ")", x.fog(w, p, n, what), y.fog(w, p, n, what));
            }
            case 22 -> {
                int seed = random.nextInt();
                int n = near(61);
                int w = what(6, 6);
                same("drawn(" + f + ", " + seed + ", " + n + ", " + w + ")", x.drawn(f, seed, n, w), y.drawn(f, seed, n, w));
            }
            case 23 -> same("middle(" + f + ", " + yes + ")", x.middle(f, yes), y.middle(f, yes));
            default -> askMore(which, f, d, b, yes);
        }
    }

    private void askMore(int which, int f, int d, int b, boolean yes) {
        switch (which) {
            case 24 -> {
                int way = near(4);
                same("post(" + f + ", " + b + ", " + way + ", " + yes + ")", x.post(f, b, way, yes), y.post(f, b, way, yes));
            }
            case 25 -> same("cornered(" + f + ")", x.cornered(f), y.cornered(f));
            case 26 -> same("lined(" + f + ", " + b + ")", x.lined(f, b), y.lined(f, b));
            case 27 -> {
                int n = near(41);
                int w = near(3);
                same("greedy(" + f + ", " + n + ", " + w + ")", x.greedy(f, n, w), y.greedy(f, n, w));
            }
            case 28 -> same("caught(" + f + ", " + d + ", " + b + ")", x.caught(f, d, b), y.caught(f, d, b));
            case 29 -> {
                int n = near(12);
                same("spread(" + f + ", " + d + ", " + n + ")", x.spread(f, d, n), y.spread(f, d, n));
            }
            case 30 -> same("thrice(" + f + ", " + d + ")", x.thrice(f, d), y.thrice(f, d));
            case 31 -> same("stir(" + f + ", " + yes + ")", x.stir(f, yes), y.stir(f, yes));
            case 32 -> {
                int dog = near(5);
                same("dear(" + f + ", " + dog + ")", x.dear(f, dog), y.dear(f, dog));
            }
            case 33 -> same("idle(" + f + ")", x.idle(f), y.idle(f));
            case 34 -> {
                int m = near(11);
                same("run(" + f + ", " + m + ", " + yes + ")", x.run(f, m, yes), y.run(f, m, yes));
            }
            case 35 -> {
                int c = near(64);
                int dog = below(2) == 0 ? near(64) : c + below(5) - 2;
                int k = near(20);
                same("would(" + f + ", " + c + ", " + dog + ", " + k + ")", x.would(f, c, dog, k), y.would(f, c, dog, k));
            }
            case 36 -> {
                int w = near(21);
                int q = near(10);
                same("reply(" + w + ", " + q + ")", x.reply(w, q), y.reply(w, q));
            }
            case 37 -> {
                int s = near(4);
                same("count(" + s + ")", x.count(s), y.count(s));
            }
            case 38 -> askImages();
            default -> {
                int k = near(3);
                same("again(" + k + ")", x.again(k) ? 1 : 0, y.again(k) ? 1 : 0);
            }
        }
    }

    /** Texts by a random source: mostly sound ones. */
    static final class Texts {
        static String draw(Random r, int sort) {
            StringBuilder s = new StringBuilder();
            switch (sort) {
                case 0 -> fell(r, s);
                case 1 -> drive(r, s);
                case 2 -> book(r, s);
                default -> log(r, s);
            }
            if (r.nextInt(8) == 0 && s.length() > 0) {
                spoil(r, s);
            }
            return s.toString();
        }

        private static String gap(Random r) {
            return r.nextInt(20) == 0 ? "\n" : r.nextInt(20) == 0 ? "  " : " ";
        }

        private static void line(Random r, StringBuilder s, String word, int... numbers) {
            s.append(word);
            for (int n : numbers) {
                s.append(r.nextInt(60) == 0 && Character.isLetter(s.charAt(s.length() - 1)) ? "" : gap(r));
                s.append(r.nextInt(30) == 0 && n < 10 ? "0" + n : "" + n);
            }
            s.append(r.nextInt(20) == 0 ? " ;" : ";");
            s.append(r.nextInt(20) == 0 ? gap(r) : "");
        }

        private static void fell(Random r, StringBuilder s) {
            int wide = 6;
            int high = 6;
            if (r.nextInt(5) > 0) {
                wide = 2 + r.nextInt(7);
                high = 2 + r.nextInt(7);
                line(r, s, "size", wide, high);
            }
            struck(r, s, wide, high);
            boolean[] used = new boolean[64];
            if (r.nextInt(4) > 0) {
                int c = free(r, used, wide, high);
                line(r, s, "pen", c % 8, c / 8);
            } else {
                used[0] = true;
            }
            if (r.nextInt(4) > 0) {
                int c = free(r, used, wide, high);
                line(r, s, "dog", c % 8, c / 8, 1 + r.nextInt(9));
            } else {
                used[9] = true;
            }
            int beasts = r.nextInt(30) == 0 ? 7 : r.nextInt(7);
            for (int b = 0; b < beasts && b < wide * high - 2 - (r.nextInt(10) == 0 ? 0 : 1); b++) {
                int c = free(r, used, wide, high);
                line(r, s, new String[] {"ewe", "ram", "bolter", "goose"}[r.nextInt(4)], c % 8, c / 8);
            }
            int walls = r.nextInt(3) == 0 ? 0 : r.nextInt(Math.max(1, wide * high / 3));
            for (int w = 0; w < walls; w++) {
                int c = free(r, used, wide, high);
                if (c >= 0) {
                    line(r, s, "wall", c % 8, c / 8);
                    used[c] = r.nextInt(20) > 0;
                }
            }
            if (r.nextInt(25) == 0) {
                line(r, s, "size", 2 + r.nextInt(8), 2 + r.nextInt(7));
            }
            if (r.nextInt(25) == 0) {
                line(r, s, r.nextBoolean() ? "pen" : "wall", r.nextInt(9), r.nextInt(8));
            }
        }

        /** Lines that later ones mostly strike: most of cells that are there, some of others. */
        private static void struck(Random r, StringBuilder s, int wide, int high) {
            for (int i = 0; i < 2 && r.nextInt(8) == 0; i++) {
                boolean out = r.nextInt(4) == 0;
                int column = r.nextInt(out ? 8 : wide);
                int row = r.nextInt(out ? 8 : high);
                if (r.nextBoolean()) {
                    line(r, s, "pen", column, row);
                } else {
                    line(r, s, "dog", column, row, 1 + r.nextInt(9));
                }
            }
        }

        private static int free(Random r, boolean[] used, int wide, int high) {
            for (int i = 0; i < 300; i++) {
                int c = 8 * r.nextInt(high) + r.nextInt(wide);
                if (!used[c]) {
                    used[c] = true;
                    return c;
                }
            }
            return 8 * r.nextInt(high) + r.nextInt(wide);
        }

        private static void drive(Random r, StringBuilder s) {
            int n = r.nextInt(12) == 0 ? 38 + r.nextInt(5) : r.nextInt(12);
            boolean lies = false;
            for (int i = 0; i < n; i++) {
                int k = r.nextInt(12);
                if (k < 9) {
                    line(r, s, "go", r.nextInt(60) == 0 ? 4 : r.nextInt(4));
                    lies = false;
                } else if (k == 9) {
                    line(r, s, "back");
                } else {
                    line(r, s, lies == (r.nextInt(6) > 0) ? "stand" : "lie");
                    lies = !lies;
                }
            }
        }

        private static void book(Random r, StringBuilder s) {
            int dogs = r.nextInt(r.nextInt(12) == 0 ? 7 : 6);
            int bargains = r.nextInt(r.nextInt(12) == 0 ? 10 : 8);
            int fields = r.nextInt(r.nextInt(12) == 0 ? 12 : 11);
            int most = r.nextBoolean() ? 100 : 4;
            while (dogs + bargains + fields > 0) {
                int k = r.nextInt(dogs + bargains + fields);
                if (k < dogs) {
                    dogs--;
                    line(r, s, "dog", r.nextInt(80) == 0 ? 0 : 1 + r.nextInt(9), r.nextInt(4));
                } else if (k < dogs + bargains) {
                    bargains--;
                    line(r, s, "bargain", 1 + r.nextInt(9), r.nextInt(most));
                } else {
                    fields--;
                    line(r, s, "field", r.nextInt(most));
                }
            }
        }

        private static void log(Random r, StringBuilder s) {
            int n = r.nextInt(15) == 0 ? 9 : r.nextInt(5);
            int code = r.nextInt(36);
            for (int i = 0; i < n; i++) {
                int bc = r.nextInt(r.nextInt(60) == 0 ? 10 : 8);
                int br = r.nextInt(8);
                int dc = Math.max(0, Math.min(7, bc + r.nextInt(7) - 3));
                int dr = Math.max(0, Math.min(r.nextInt(30) == 0 ? 9 : 7, br + r.nextInt(7) - 3));
                if (bc == dc && br == dr && r.nextInt(8) > 0) {
                    dc = bc == 0 ? 1 : bc - 1;
                }
                List<Integer> ways = r.nextInt(12) == 0 || bc == dc && br == dr ? List.of(r.nextInt(4)) : does(code, bc, br, dc, dr);
                if (ways.isEmpty()) {
                    line(r, s, "stayed", bc, br, dc, dr);
                } else {
                    line(r, s, ways.size() == 2 && ways.get(0).equals(ways.get(1)) ? "twice" : "went", bc, br, dc, dr, ways.get(0));
                }
            }
        }

        private static List<Integer> does(int code, int bc, int br, int dc, int dr) {
            return new PlainNotary.Flock(new PlainNotary.Fell(8, 8, java.util.Set.of(), new PlainNotary.Spot(-9, -9),
                new PlainNotary.Spot(dc, dr), code % 9 + 1,
                List.of(new PlainNotary.Beast(code / 9, new PlainNotary.Spot(bc, br))))).move(0);
        }

        private static void spoil(Random r, StringBuilder s) {
            int at = r.nextInt(s.length());
            switch (r.nextInt(5)) {
                case 0 -> s.deleteCharAt(at);
                case 1 -> s.insert(at, (char) r.nextInt(256));
                case 2 -> s.setCharAt(at, (char) (32 + r.nextInt(95)));
                case 3 -> s.insert(at, r.nextInt(10));
                default -> s.setLength(at);
            }
        }
    }
}
