import java.math.BigInteger;
import java.util.ArrayList;
import java.util.Arrays;
import java.util.Comparator;
import java.util.HashMap;
import java.util.HashSet;
import java.util.List;
import java.util.Map;
import java.util.Set;
import java.util.TreeSet;

/** The document once more, written for plainness with the whole library, to hold DogNotary's answers against. */
final class PlainNotary {
    static final int[][] WAYS = {{0, -1}, {1, 0}, {0, 1}, {-1, 0}};

    record Spot(int col, int row) {
        Spot by(int d) {
            return new Spot(col + WAYS[d][0], row + WAYS[d][1]);
        }

        int to(Spot o) {
            return Math.abs(col - o.col) + Math.abs(row - o.row);
        }
    }

    record Beast(int kind, Spot spot) { }

    record Fell(int wide, int high, Set<Spot> walls, Spot pen, Spot dog, int eye, List<Beast> beasts) {
        boolean there(Spot s) {
            return s.col >= 0 && s.row >= 0 && s.col < wide && s.row < high;
        }

        boolean open(Spot s) {
            return there(s) && !walls.contains(s);
        }

        int num(Spot s) {
            return s == null ? -1 : wide * s.row + s.col;
        }

        List<Spot> all() {
            List<Spot> out = new ArrayList<>();
            for (int r = 0; r < high; r++) {
                for (int c = 0; c < wide; c++) {
                    out.add(new Spot(c, r));
                }
            }
            return out;
        }

        boolean post(Spot s) {
            return open(s) && !s.equals(pen) && beasts.stream().noneMatch(b -> b.spot.equals(s));
        }

        Fell with(Spot newDog, List<Beast> newBeasts) {
            return new Fell(wide, high, walls, pen, newDog, eye, newBeasts);
        }
    }

    record Word(String word, int number) { }

    record Deal(int eye, int other) { }

    record Book(List<Deal> dogs, List<Deal> bargains, List<Integer> fields) { }

    record Fact(int did, Spot beast, Spot dog, int way) { }

    /** A flock at a minute: all by value, each change a new list. */
    static final class Flock {
        final Fell fell;
        Spot dog;
        boolean lies;
        boolean back;
        int minute;
        final Spot[] spots;
        final boolean[] penned;
        final int[] steps;

        Flock(Fell fell) {
            this.fell = fell;
            dog = fell.dog;
            int n = fell.beasts.size();
            spots = new Spot[n];
            penned = new boolean[n];
            steps = new int[n];
            for (int i = 0; i < n; i++) {
                spots[i] = fell.beasts.get(i).spot;
            }
        }

        Flock copy() {
            Flock f = new Flock(fell);
            f.dog = dog;
            f.lies = lies;
            f.back = back;
            f.minute = minute;
            System.arraycopy(spots, 0, f.spots, 0, spots.length);
            System.arraycopy(penned, 0, f.penned, 0, penned.length);
            System.arraycopy(steps, 0, f.steps, 0, steps.length);
            return f;
        }

        int way(int b) {
            for (int d = 0; d < 4; d++) {
                Spot to = spots[b].by(d);
                boolean ok = fell.open(to) && !to.equals(dog);
                for (int o = 0; o < spots.length; o++) {
                    if (o != b && spots[o].equals(to) && !to.equals(fell.pen)) {
                        ok = false;
                    }
                }
                int change = to.to(dog) - spots[b].to(dog);
                if (ok && (fell.beasts.get(b).kind == 3 ? change < 0 : change > 0)) {
                    return d;
                }
            }
            return -1;
        }

        boolean driven(int b) {
            int kind = fell.beasts.get(b).kind;
            return !penned[b] && !lies && !back
                && (kind == 1 ? spots[b].to(dog) == 1 : spots[b].to(dog) <= fell.eye);
        }

        List<Integer> move(int b) {
            List<Integer> ways = new ArrayList<>();
            if (!driven(b)) {
                return ways;
            }
            int most = fell.beasts.get(b).kind == 2 ? 2 : 1;
            for (int i = 0; i < most && !penned[b]; i++) {
                int d = way(b);
                if (d < 0) {
                    break;
                }
                ways.add(d);
                spots[b] = spots[b].by(d);
                steps[b]++;
                penned[b] = spots[b].equals(fell.pen);
            }
            return ways;
        }

        int all() {
            int n = 0;
            for (int b = 0; b < spots.length; b++) {
                n += move(b).isEmpty() ? 0 : 1;
            }
            return n;
        }

        boolean whistle(Word w) {
            switch (w.word) {
                case "go" -> {
                    Spot to = dog.by(w.number);
                    if (!fell.open(to) || to.equals(fell.pen) || Arrays.asList(spots).contains(to)) {
                        return false;
                    }
                    dog = to;
                    lies = false;
                }
                case "lie" -> {
                    if (lies) {
                        return false;
                    }
                    lies = true;
                }
                case "stand" -> {
                    if (!lies) {
                        return false;
                    }
                    lies = false;
                }
                default -> back = !back;
            }
            all();
            minute++;
            return true;
        }

        int bits() {
            int bits = 0;
            for (int b = 0; b < penned.length; b++) {
                bits |= penned[b] ? 1 << b : 0;
            }
            return bits;
        }

        int penSteps() {
            return Arrays.stream(spots).mapToInt(s -> s.to(fell.pen)).sum();
        }

        int tell(int what) {
            if (what == 0) {
                return minute;
            }
            if (what == 1) {
                return fell.num(dog);
            }
            if (what == 2) {
                return lies ? 1 : 0;
            }
            if (what == 3) {
                return back ? 1 : 0;
            }
            if (what == 4) {
                return bits();
            }
            if (what == 5) {
                return Arrays.stream(steps).sum();
            }
            for (int b = 0; b < spots.length; b++) {
                if (what == 10 + b) {
                    return fell.num(spots[b]);
                }
                if (what == 20 + b) {
                    return steps[b];
                }
            }
            return -2;
        }
    }

    List<Integer> tape = new ArrayList<>();
    int faultNow = 0;
    int placeNow = -1;
    List<Fell> fells = new ArrayList<>();
    List<List<Word>> drives = new ArrayList<>();
    List<Book> books = new ArrayList<>();
    List<List<Fact>> logs = new ArrayList<>();
    final PlainNotary[] images = new PlainNotary[3];

    private void take(PlainNotary o) {
        tape = new ArrayList<>(o.tape);
        faultNow = o.faultNow;
        placeNow = o.placeNow;
        fells = new ArrayList<>(o.fells);
        drives = new ArrayList<>(o.drives);
        books = new ArrayList<>(o.books);
        logs = new ArrayList<>(o.logs);
    }

    boolean image(int k) {
        if (k < 0 || k > 2) {
            return false;
        }
        images[k] = new PlainNotary();
        images[k].take(this);
        return true;
    }

    boolean again(int k) {
        if (k < 0 || k > 2 || images[k] == null) {
            return false;
        }
        take(images[k]);
        return true;
    }

    int feed(int a, int b, int c, int d, int e) {
        if (tape.size() > 580) {
            return -1;
        }
        for (int x : new int[] {a, b, c, d, e}) {
            for (int i = 3; i >= 0; i--) {
                tape.add(x >>> (8 * i) & 255);
            }
        }
        return tape.size();
    }

    int end(int n) {
        if (n < 0 || n > tape.size()) {
            return -1;
        }
        tape = new ArrayList<>(tape.subList(0, n));
        return n;
    }

    private List<?> sort(int sort) {
        return switch (sort) {
            case 0 -> fells;
            case 1 -> drives;
            case 2 -> books;
            case 3 -> logs;
            default -> null;
        };
    }

    int count(int sort) {
        return sort(sort) == null ? -2 : sort(sort).size();
    }

    int fault(int what) {
        return what == 0 ? faultNow : what == 1 ? placeNow : -1;
    }

    record Token(String s, int place) { }

    /** All tokens; a sign that begins none is a token "?" behind which nothing is read. */
    private static List<Token> tokens(String s) {
        List<Token> out = new ArrayList<>();
        java.util.regex.Matcher m = java.util.regex.Pattern.compile("[ \n]+|[a-z]+|[0-9]+|;|(?s:.)").matcher(s);
        while (m.find()) {
            String t = m.group();
            if (t.isBlank() && (t.charAt(0) == ' ' || t.charAt(0) == '\n')) {
                continue;
            }
            boolean good = t.matches("[a-z]+|[0-9]{1,2}|;");
            out.add(new Token(good ? t : "?", m.start()));
        }
        out.add(new Token("$", s.length()));
        return out;
    }

    private static final List<Map<String, int[]>> GRAMMAR = grammar();

    private static List<Map<String, int[]>> grammar() {
        List<Map<String, int[]>> g = new ArrayList<>();
        Map<String, int[]> fell = new HashMap<>();
        fell.put("size", new int[] {2, 8, 2, 8});
        for (String w : List.of("wall", "pen", "ewe", "ram", "bolter", "goose")) {
            fell.put(w, new int[] {0, 7, 0, 7});
        }
        fell.put("dog", new int[] {0, 7, 0, 7, 1, 9});
        g.add(fell);
        g.add(Map.of("go", new int[] {0, 3}, "lie", new int[0], "stand", new int[0], "back", new int[0]));
        g.add(Map.of("dog", new int[] {1, 9, 0, 3}, "bargain", new int[] {1, 9, 0, 99}, "field", new int[] {0, 99}));
        g.add(Map.of("went", new int[] {0, 7, 0, 7, 0, 7, 0, 7, 0, 3}, "twice", new int[] {0, 7, 0, 7, 0, 7, 0, 7, 0, 3},
            "stayed", new int[] {0, 7, 0, 7, 0, 7, 0, 7}));
        return g;
    }

    private static String group(int sort, String word) {
        if (sort == 0) {
            return List.of("ewe", "ram", "bolter", "goose").contains(word) ? "beast" : "-";
        }
        return sort == 1 ? "whistle" : sort == 2 ? word : "fact";
    }

    private static final Map<String, Integer> LIMITS =
        Map.of("beast", 6, "whistle", 40, "dog", 5, "bargain", 8, "field", 10, "fact", 8);

    record Line(String word, int[] n) { }

    record Fault(int fault, int place) { }

    /** Reads to lines; the faults 1 to 3. */
    private static Fault lines(String s, int sort, List<Line> out) {
        List<Token> ts = tokens(s);
        List<Fault> faults = new ArrayList<>();
        Map<String, Integer> told = new HashMap<>();
        int i = 0;
        while (!ts.get(i).s.equals("$")) {
            Token first = ts.get(i++);
            int[] ranges = GRAMMAR.get(sort).get(first.s);
            if (ranges == null) {
                return new Fault(1, first.place);
            }
            int[] n = new int[ranges.length / 2];
            for (int k = 0; k < n.length; k++) {
                Token t = ts.get(i++);
                if (!t.s.matches("[0-9]+")) {
                    return new Fault(1, t.place);
                }
                n[k] = Integer.parseInt(t.s);
                boolean same = sort == 3 && k == 3 && n[0] == n[2] && n[1] == n[3];
                if (n[k] < ranges[2 * k] || n[k] > ranges[2 * k + 1] || same) {
                    faults.add(new Fault(2, t.place));
                }
            }
            if (!ts.get(i).s.equals(";")) {
                return new Fault(1, ts.get(i).place);
            }
            i++;
            String group = group(sort, first.s);
            told.merge(group, 1, Integer::sum);
            if (LIMITS.containsKey(group) && told.get(group) > LIMITS.get(group)) {
                faults.add(new Fault(3, first.place));
            }
            out.add(new Line(first.s, n));
        }
        faults.sort(Comparator.comparingInt(Fault::place).thenComparingInt(Fault::fault));
        return faults.isEmpty() ? null : faults.get(0);
    }

    int text(int sort, int at) {
        faultNow = 0;
        placeNow = -1;
        StringBuilder sb = new StringBuilder();
        tape.forEach(b -> sb.append((char) (int) b));
        tape = new ArrayList<>();
        if (sort(sort) == null || at < -1 || at >= sort(sort).size() || at == -1 && sort(sort).size() == 2) {
            return -2;
        }
        List<Line> lines = new ArrayList<>();
        Fault fault = lines(sb.toString(), sort, lines);
        Object made = fault == null ? make(sort, lines) : null;
        if (fault == null && made instanceof Integer flaw) {
            fault = new Fault(flaw, sb.length());
        }
        if (fault != null) {
            faultNow = fault.fault;
            placeNow = fault.place;
            return -1;
        }
        @SuppressWarnings("unchecked")
        List<Object> list = (List<Object>) sort(sort);
        if (at == -1) {
            list.add(made);
            return list.size() - 1;
        }
        list.set(at, made);
        return at;
    }

    private static Object make(int sort, List<Line> lines) {
        if (sort == 0) {
            return makeFell(lines);
        }
        if (sort == 1) {
            return lines.stream().map(l -> new Word(l.word, l.n.length == 0 ? -1 : l.n[0])).toList();
        }
        if (sort == 2) {
            Book b = new Book(new ArrayList<>(), new ArrayList<>(), new ArrayList<>());
            for (Line l : lines) {
                switch (l.word) {
                    case "dog" -> b.dogs.add(new Deal(l.n[0], l.n[1]));
                    case "bargain" -> b.bargains.add(new Deal(l.n[0], l.n[1]));
                    default -> b.fields.add(l.n[0]);
                }
            }
            return b;
        }
        return lines.stream().map(l -> new Fact(List.of("went", "twice", "stayed").indexOf(l.word),
            new Spot(l.n[0], l.n[1]), new Spot(l.n[2], l.n[3]), l.n.length > 4 ? l.n[4] : -1)).toList();
    }

    private static Object makeFell(List<Line> lines) {
        int wide = 6;
        int high = 6;
        int eye = 3;
        Spot pen = new Spot(0, 0);
        Spot dog = new Spot(1, 1);
        Set<Spot> walls = new HashSet<>();
        List<Beast> beasts = new ArrayList<>();
        List<Spot> toldOf = new ArrayList<>();
        for (Line l : lines) {
            Spot s = new Spot(l.n[0], l.n[1]);
            if (!l.word.equals("size")) {
                toldOf.add(s);
            }
            switch (l.word) {
                case "size" -> {
                    wide = l.n[0];
                    high = l.n[1];
                }
                case "wall" -> walls.add(s);
                case "pen" -> pen = s;
                case "dog" -> {
                    dog = s;
                    eye = l.n[2];
                }
                default -> beasts.add(new Beast(List.of("ewe", "ram", "bolter", "goose").indexOf(l.word), s));
            }
        }
        Fell f = new Fell(wide, high, walls, pen, dog, eye, beasts);
        for (Spot s : toldOf) {
            if (!f.there(s)) {
                return 4;
            }
        }
        List<Spot> solid = new ArrayList<>(walls);
        solid.add(pen);
        solid.add(dog);
        beasts.forEach(b -> solid.add(b.spot));
        if (new HashSet<>(solid).size() != solid.size()) {
            return 5;
        }
        return f;
    }

    private Fell fellOf(int i) {
        return i >= 0 && i < fells.size() ? fells.get(i) : null;
    }

    private List<Word> driveOf(int i) {
        return i >= 0 && i < drives.size() ? drives.get(i) : null;
    }

    private Book bookOf(int i) {
        return i >= 0 && i < books.size() ? books.get(i) : null;
    }

    private List<Fact> logOf(int i) {
        return i >= 0 && i < logs.size() ? logs.get(i) : null;
    }

    private static boolean in(int k, List<?> list) {
        return k >= 0 && k < list.size();
    }

    int fell(int fell, int what) {
        Fell f = fellOf(fell);
        if (f == null) {
            return -1;
        }
        Map<Integer, Integer> all = new HashMap<>(Map.of(0, f.wide, 1, f.high, 2, f.num(f.pen), 3, f.num(f.dog), 4, f.eye,
            5, f.beasts.size()));
        for (int b = 0; b < f.beasts.size(); b++) {
            all.put(10 + b, f.beasts.get(b).kind);
            all.put(20 + b, f.num(f.beasts.get(b).spot));
        }
        for (Spot s : f.all()) {
            all.put(100 + f.num(s), f.walls.contains(s) ? 1 : 0);
        }
        return all.getOrDefault(what, -1);
    }

    int whistle(int drive, int k, int what) {
        List<Word> d = driveOf(drive);
        if (d == null) {
            return -2;
        }
        if (k == -1) {
            return what == 0 ? d.size() : -2;
        }
        if (!in(k, d)) {
            return -2;
        }
        return what == 0 ? List.of("go", "lie", "stand", "back").indexOf(d.get(k).word) : what == 1 ? d.get(k).number : -2;
    }

    /** All states of a drive, from 0 to its end. */
    private static List<Flock> states(Fell f, List<Word> d) {
        List<Flock> out = new ArrayList<>();
        Flock now = new Flock(f);
        out.add(now);
        for (Word w : d) {
            now = now.copy();
            if (!now.whistle(w)) {
                break;
            }
            out.add(now);
        }
        return out;
    }

    int till(int fell, int drive) {
        return fellOf(fell) == null || driveOf(drive) == null ? -1 : states(fellOf(fell), driveOf(drive)).size() - 1;
    }

    int state(int fell, int drive, int n, int what) {
        if (fellOf(fell) == null || driveOf(drive) == null) {
            return -2;
        }
        List<Flock> all = states(fellOf(fell), driveOf(drive));
        return in(n, all) ? all.get(n).tell(what) : -2;
    }

    private boolean noBeast(int fell, int beast) {
        return fellOf(fell) == null || !in(beast, fellOf(fell).beasts);
    }

    int shy(int fell, int beast) {
        if (noBeast(fell, beast)) {
            return -1;
        }
        Flock f = new Flock(fellOf(fell));
        f.move(beast);
        return f.fell.num(f.spots[beast]);
    }

    int driven(int fell, int beast, int what) {
        if (noBeast(fell, beast)) {
            return -1;
        }
        Fell f = fellOf(fell);
        Fell lone = f.with(f.dog, List.of(f.beasts.get(beast)));
        Set<List<Spot>> seen = new HashSet<>();
        Set<Spot> reach = new HashSet<>();
        reach.add(f.beasts.get(beast).spot);
        // of each couple of cells that a level has: the first directions by which it is come to
        Map<List<Spot>, TreeSet<Integer>> level = new HashMap<>();
        level.put(List.of(f.dog, f.beasts.get(beast).spot), new TreeSet<>());
        seen.addAll(level.keySet());
        int many = -1;
        int first = -1;
        for (int goings = 1; !level.isEmpty(); goings++) {
            Map<List<Spot>, TreeSet<Integer>> next = new HashMap<>();
            TreeSet<Integer> home = new TreeSet<>();
            for (Map.Entry<List<Spot>, TreeSet<Integer>> e : level.entrySet()) {
                for (int d = 0; d < 4; d++) {
                    Flock now = new Flock(lone.with(e.getKey().get(0), List.of(new Beast(f.beasts.get(beast).kind, e.getKey().get(1)))));
                    if (!now.whistle(new Word("go", d))) {
                        continue;
                    }
                    reach.add(now.spots[0]);
                    TreeSet<Integer> firsts = goings == 1 ? new TreeSet<>(Set.of(d)) : e.getValue();
                    if (now.penned[0]) {
                        home.addAll(firsts);
                    } else {
                        List<Spot> key = List.of(now.dog, now.spots[0]);
                        if (!seen.contains(key)) {
                            next.computeIfAbsent(key, k -> new TreeSet<>()).addAll(firsts);
                        }
                    }
                }
            }
            if (many < 0 && !home.isEmpty()) {
                many = goings;
                first = home.first();
            }
            seen.addAll(next.keySet());
            level = next;
        }
        return what == 0 ? many : what == 1 ? first : what == 2 ? reach.size() : -1;
    }

    long heard(int fell, int beast, int h, boolean under) {
        int many = driven(fell, beast, 0);
        if (many < 0 || h < 1 || h > 10) {
            return -1;
        }
        return fraction(BigInteger.valueOf(10L * many), BigInteger.valueOf(h), under);
    }

    private static long fraction(BigInteger n, BigInteger d, boolean under) {
        BigInteger g = n.gcd(d);
        return (under ? d : n).divide(g).longValueExact();
    }

    int safe(int fell, boolean least) {
        Fell f = fellOf(fell);
        if (f == null) {
            return -2;
        }
        List<Spot> safe = f.all().stream().filter(s -> f.post(s) && new Flock(f.with(s, f.beasts)).all() == 0).toList();
        return !least ? safe.size() : safe.isEmpty() ? -1 : f.num(safe.get(0));
    }

    private static Map<Spot, Integer> walk(Fell f, Spot from) {
        Map<Spot, Integer> far = new HashMap<>();
        if (f.open(from)) {
            far.put(from, 0);
        }
        boolean more = true;
        while (more) {
            more = false;
            for (Spot s : new ArrayList<>(far.keySet())) {
                for (int d = 0; d < 4; d++) {
                    Spot to = s.by(d);
                    if (f.open(to) && far.getOrDefault(to, 999) > far.get(s) + 1) {
                        far.put(to, far.get(s) + 1);
                        more = true;
                    }
                }
            }
        }
        return far;
    }

    int nearest(int fell, int cell, boolean steps) {
        Fell f = fellOf(fell);
        if (f == null || cell < 0 || cell >= f.wide * f.high) {
            return -1;
        }
        Map<Spot, Integer> far = walk(f, f.all().get(cell));
        int best = -1;
        for (int b = 0; b < f.beasts.size(); b++) {
            Integer own = far.get(f.beasts.get(b).spot);
            if (own != null && (best < 0 || own < far.get(f.beasts.get(best).spot))) {
                best = b;
            }
        }
        return best < 0 ? -1 : steps ? far.get(f.beasts.get(best).spot) : best;
    }

    int middle(int fell, boolean steps) {
        Fell f = fellOf(fell);
        if (f == null) {
            return -1;
        }
        Comparator<Spot> by = Comparator.comparingInt(s -> f.beasts.stream().mapToInt(b -> b.spot.to(s)).sum());
        Spot best = f.all().stream().filter(f::open).min(by).orElseThrow();
        return steps ? f.beasts.stream().mapToInt(b -> b.spot.to(best)).sum() : f.num(best);
    }

    int post(int fell, int beast, int direction, boolean many) {
        if (noBeast(fell, beast) || direction < 0 || direction > 3) {
            return -2;
        }
        Fell f = fellOf(fell);
        List<Spot> posts = new ArrayList<>();
        for (Spot s : f.all()) {
            if (f.post(s)) {
                List<Integer> ways = new Flock(f.with(s, f.beasts)).move(beast);
                if (!ways.isEmpty() && ways.get(0) == direction) {
                    posts.add(s);
                }
            }
        }
        return many ? posts.size() : posts.isEmpty() ? -1 : f.num(posts.get(0));
    }

    int cornered(int fell) {
        Fell f = fellOf(fell);
        if (f == null) {
            return -1;
        }
        int bits = 0;
        for (int b = 0; b < f.beasts.size(); b++) {
            int all = 0;
            for (int d = 0; d < 4; d++) {
                all += post(fell, b, d, true);
            }
            bits |= all == 0 ? 1 << b : 0;
        }
        return bits;
    }

    int lined(int fell, int k) {
        Fell f = fellOf(fell);
        if (f == null || !in(k, f.beasts)) {
            return -1;
        }
        Map<Spot, Integer> far = walk(f, f.pen);
        List<Integer> row = new ArrayList<>();
        for (int b = 0; b < f.beasts.size(); b++) {
            row.add(b);
        }
        row.sort(Comparator.comparingInt(b -> far.getOrDefault(f.beasts.get(b).spot, 9999)));
        return row.get(k);
    }

    int greedy(int fell, int n, int what) {
        Fell f = fellOf(fell);
        if (f == null || n < 0 || n > 40) {
            return -1;
        }
        Flock now = new Flock(f);
        for (int i = 0; i < n; i++) {
            List<Flock> next = new ArrayList<>();
            for (int d = 0; d < 4; d++) {
                Flock then = now.copy();
                if (then.whistle(new Word("go", d))) {
                    next.add(then);
                }
            }
            if (next.isEmpty()) {
                break;
            }
            now = next.stream().min(Comparator.comparingInt(Flock::penSteps)).orElseThrow();
        }
        return what == 0 ? now.bits() : what == 1 ? now.penSteps() : what == 2 ? f.num(now.dog) : -1;
    }

    int caught(int fell, int drive, int beast) {
        if (noBeast(fell, beast) || driveOf(drive) == null) {
            return -1;
        }
        List<Flock> all = states(fellOf(fell), driveOf(drive));
        for (int n = 0; n < all.size(); n++) {
            if (all.get(n).penned[beast]) {
                return n;
            }
        }
        return -1;
    }

    int spread(int fell, int drive, int n) {
        if (fellOf(fell) == null || driveOf(drive) == null || fellOf(fell).beasts.size() < 2) {
            return -1;
        }
        List<Flock> all = states(fellOf(fell), driveOf(drive));
        if (!in(n, all)) {
            return -1;
        }
        int most = 0;
        for (Spot a : all.get(n).spots) {
            for (Spot b : all.get(n).spots) {
                most = Math.max(most, a.to(b));
            }
        }
        return most;
    }

    int thrice(int fell, int drive) {
        if (fellOf(fell) == null || driveOf(drive) == null) {
            return -1;
        }
        List<Word> d = driveOf(drive);
        List<Word> three = new ArrayList<>(d);
        three.addAll(d);
        three.addAll(d);
        int end = states(fellOf(fell), three).size() - 1;
        return d.isEmpty() ? 3 : end / d.size();
    }

    int stir(int fell, boolean many) {
        Fell f = fellOf(fell);
        if (f == null) {
            return -1;
        }
        Spot best = f.all().stream().filter(f::post)
            .min(Comparator.comparingInt(s -> -new Flock(f.with(s, f.beasts)).all())).orElseThrow();
        return many ? new Flock(f.with(best, f.beasts)).all() : f.num(best);
    }

    int drawn(int fell, int seed, int n, int what) {
        if (fellOf(fell) == null || n < 0 || n > 60) {
            return -2;
        }
        Flock f = new Flock(fellOf(fell));
        long x = seed & 0xffffffffL;
        for (int i = 0; i < n; i++) {
            x = (x * 1103515245L + 12345L) & 0xffffffffL;
            int w = (int) ((x >> 16) % 8);
            if (w <= 4) {
                x = (x * 1103515245L + 12345L) & 0xffffffffL;
                f.whistle(new Word("go", (int) ((x >> 16) % 4)));
            } else {
                f.whistle(new Word(List.of("lie", "stand", "back").get(w - 5), -1));
            }
        }
        return f.tell(what);
    }

    int book(int book, int what) {
        Book b = bookOf(book);
        if (b == null) {
            return -1;
        }
        Map<Integer, Integer> all = new HashMap<>(Map.of(0, b.dogs.size(), 1, b.bargains.size(), 2, b.fields.size()));
        for (int i = 0; i < b.dogs.size(); i++) {
            all.put(10 + i, b.dogs.get(i).eye);
            all.put(20 + i, b.dogs.get(i).other);
        }
        for (int i = 0; i < b.bargains.size(); i++) {
            all.put(30 + i, b.bargains.get(i).eye);
            all.put(40 + i, b.bargains.get(i).other);
        }
        for (int i = 0; i < b.fields.size(); i++) {
            all.put(50 + i, b.fields.get(i));
        }
        return all.getOrDefault(what, -1);
    }

    /** All rows, in their order: the first with the most worth (worth in front). */
    private static int[] notaries(Book b, int without) {
        int n = b.bargains.size();
        int[] best = new int[n + 1];
        best[0] = -1;
        tryRows(b, without, new int[n], 0, new int[5], best);
        return best;
    }

    private static void tryRows(Book b, int without, int[] row, int at, int[] used, int[] best) {
        if (at == row.length) {
            int worth = 0;
            for (int i = 0; i < at; i++) {
                worth += row[i] == 5 ? 0 : b.bargains.get(i).other;
            }
            if (worth > best[0]) {
                best[0] = worth;
                System.arraycopy(row, 0, best, 1, at);
            }
            return;
        }
        for (int d = 0; d < 6; d++) {
            if (d == 5) {
                row[at] = 5;
                tryRows(b, without, row, at + 1, used, best);
            } else if (d < b.dogs.size() && d != without && b.dogs.get(d).eye >= b.bargains.get(at).eye
                && used[d] < b.dogs.get(d).other) {
                used[d]++;
                row[at] = d;
                tryRows(b, without, row, at + 1, used, best);
                used[d]--;
            }
        }
    }

    int notary(int book, int k) {
        Book b = bookOf(book);
        if (b == null || k < -1 || k >= b.bargains.size()) {
            return -1;
        }
        return notaries(b, -1)[k + 1];
    }

    int dear(int book, int dog) {
        Book b = bookOf(book);
        return b == null || !in(dog, b.dogs) ? -1 : notaries(b, -1)[0] - notaries(b, dog)[0];
    }

    int idle(int book) {
        Book b = bookOf(book);
        if (b == null) {
            return -1;
        }
        int[] row = notaries(b, -1);
        int bits = 0;
        for (int d = 0; d < b.dogs.size(); d++) {
            boolean busy = false;
            for (int i = 1; i < row.length; i++) {
                busy |= row[i] == d;
            }
            bits |= busy ? 0 : 1 << d;
        }
        return bits;
    }

    private static void tryCuts(Book b, int[] cuts, int at, int[] best) {
        int n = cuts.length + 1;
        if (at == cuts.length) {
            int least = Integer.MAX_VALUE;
            for (int p = 0; p < n; p++) {
                int from = p == 0 ? 0 : cuts[p - 1];
                int to = p == n - 1 ? b.fields.size() : cuts[p];
                least = Math.min(least, b.fields.subList(from, to).stream().mapToInt(x -> x).sum());
            }
            if (least > best[0]) {
                best[0] = least;
                System.arraycopy(cuts, 0, best, 1, at);
            }
            return;
        }
        for (int c = at == 0 ? 0 : cuts[at - 1]; c <= b.fields.size(); c++) {
            cuts[at] = c;
            tryCuts(b, cuts, at + 1, best);
        }
    }

    int parted(int book, int n, int k) {
        Book b = bookOf(book);
        if (b == null || n < 1 || n > 5 || k < -1 || k > n - 2) {
            return -1;
        }
        int[] best = new int[n];
        best[0] = -1;
        tryCuts(b, new int[n - 1], 0, best);
        return best[k + 1];
    }

    int run(int book, int m, boolean worth) {
        Book b = bookOf(book);
        if (b == null || m < 1 || m > 10 || m > b.fields.size()) {
            return -1;
        }
        int best = -1;
        int most = -1;
        for (int f = 0; f <= b.fields.size() - m; f++) {
            int sum = b.fields.subList(f, f + m).stream().mapToInt(x -> x).sum();
            if (sum > most) {
                most = sum;
                best = f;
            }
        }
        return worth ? most : best;
    }

    int fact(int log, int k, int what) {
        List<Fact> l = logOf(log);
        if (l == null) {
            return -2;
        }
        if (k == -1) {
            return what == 0 ? l.size() : -2;
        }
        if (!in(k, l)) {
            return -2;
        }
        Fact f = l.get(k);
        return switch (what) {
            case 0 -> f.did;
            case 1 -> 8 * f.beast.row + f.beast.col;
            case 2 -> 8 * f.dog.row + f.dog.col;
            case 3 -> f.way;
            default -> -2;
        };
    }

    private static Flock alone(int code, Spot beast, Spot dog) {
        return new Flock(new Fell(8, 8, Set.of(), new Spot(-9, -9), dog, code % 9 + 1, List.of(new Beast(code / 9, beast))));
    }

    private static List<Integer> fitting(List<Fact> l) {
        List<Integer> out = new ArrayList<>();
        for (int code = 0; code < 36; code++) {
            boolean fits = true;
            for (Fact f : l) {
                List<Integer> ways = alone(code, f.beast, f.dog).move(0);
                fits &= ways.equals(f.did == 2 ? List.of() : f.did == 1 ? List.of(f.way, f.way) : List.of(f.way));
            }
            if (fits) {
                out.add(code);
            }
        }
        return out;
    }

    int fits(int log, int what) {
        if (logOf(log) == null) {
            return -2;
        }
        List<Integer> fit = fitting(logOf(log));
        if (what == 0) {
            return fit.size();
        }
        if (what == 1 || what == 2) {
            List<Integer> of = fit.stream().map(c -> what == 1 ? c / 9 : c % 9 + 1).distinct().toList();
            return of.size() == 1 ? of.get(0) : -1;
        }
        return what >= 10 && what - 10 < fit.size() ? fit.get(what - 10) : -2;
    }

    int ask(int log, int cell) {
        if (logOf(log) == null || cell < 0 || cell > 63) {
            return -1;
        }
        List<Integer> fit = fitting(logOf(log));
        int best = -1;
        int least = 99;
        for (int dog = 0; dog < 64 && !fit.isEmpty(); dog++) {
            if (dog == cell) {
                continue;
            }
            Map<Spot, Integer> groups = new HashMap<>();
            for (int code : fit) {
                Flock f = alone(code, new Spot(cell % 8, cell / 8), new Spot(dog % 8, dog / 8));
                f.move(0);
                groups.merge(f.spots[0], 1, Integer::sum);
            }
            int most = groups.values().stream().max(Integer::compare).orElseThrow();
            if (most < least) {
                least = most;
                best = dog;
            }
        }
        return best;
    }

    int would(int log, int cell, int dog, int k) {
        if (logOf(log) == null || cell < 0 || cell > 63 || dog < 0 || dog > 63 || dog == cell) {
            return -1;
        }
        List<Integer> fit = fitting(logOf(log));
        if (!in(k, fit)) {
            return -1;
        }
        Flock f = alone(fit.get(k), new Spot(cell % 8, cell / 8), new Spot(dog % 8, dog / 8));
        f.move(0);
        return f.fell.num(f.spots[0]);
    }

    private static int win(int worth, int own, int other, boolean first) {
        return (own > other || first && own == other ? worth : 0) - Math.min(own, other);
    }

    int holding(int a, int b, int k) {
        if (a < 0 || a > 20 || b < 0 || b > 20) {
            return -1;
        }
        List<Integer> rests = new ArrayList<>();
        for (int x = 0; x < 10; x++) {
            for (int y = 0; y < 10; y++) {
                int mostX = -99;
                int mostY = -99;
                for (int z = 0; z < 10; z++) {
                    mostX = Math.max(mostX, win(a, z, y, true));
                    mostY = Math.max(mostY, win(b, z, x, false));
                }
                if (win(a, x, y, true) == mostX && win(b, y, x, false) == mostY) {
                    rests.add(10 * x + y);
                }
            }
        }
        return k == -1 ? rests.size() : in(k, rests) ? rests.get(k) : -1;
    }

    int reply(int worth, int y) {
        if (worth < 0 || worth > 20 || y < 0 || y > 9) {
            return -1;
        }
        int best = 0;
        for (int x = 9; x >= 0; x--) {
            if (x == 9 || win(worth, x, y, true) >= win(worth, best, y, true)) {
                best = x;
            }
        }
        return best;
    }

    long fog(int w, int p, int n, int what) {
        if (w < 0 || w > 20 || p < 0 || p > 10 || n < 1 || n > 9 || what < 0 || what > 2) {
            return -1;
        }
        BigInteger ten = BigInteger.TEN;
        BigInteger fog = BigInteger.valueOf(p);
        if (what == 2) {
            for (int m = 1; m <= 9; m++) {
                // not driven: p^m of 10^m; driven: nine of ten or more
                BigInteger driven = ten.pow(m).subtract(fog.pow(m));
                if (driven.multiply(ten).compareTo(ten.pow(m).multiply(BigInteger.valueOf(9))) >= 0) {
                    return m;
                }
            }
            return -1;
        }
        BigInteger sum = BigInteger.ZERO;
        for (int day = 1; day <= n; day++) {
            BigInteger chance = fog.pow(day - 1).multiply(BigInteger.valueOf(10 - p)).multiply(ten.pow(n - day));
            sum = sum.add(chance.multiply(BigInteger.valueOf(Math.max(0, w - (day - 1)))));
        }
        return fraction(sum, ten.pow(n), what == 1);
    }
}
