import java.util.List;

/**
 * Each sentence of the document's terms that names a boundary: the last input inside it, the first one outside it.
 * A test's name has the term's number and the case.
 */
public final class TermBoundariesTest {
    private static final int NONE = Boundaries.NONE;
    private static final int FELL = Boundaries.FELL;
    private static final int DRIVE = Boundaries.DRIVE;
    private static final int BOOK = Boundaries.BOOK;
    private static final int LOG = Boundaries.LOG;
    private static final String[] KINDS = {"ewe", "ram", "bolter", "goose"};
    private static final String[] FACTS = {"went", "twice", "stayed"};

    private TermBoundariesTest() {
    }

    public static void main(String[] args) {
        Boundaries.runAll(TermBoundariesTest.class, List.of("term1", "term2"));
    }

    private static void due(String call, long got, long want) {
        Boundaries.due(call, got, want);
    }

    private static void sound(int sort, String s) {
        Boundaries.sound(sort, s);
    }

    private static void faultOf(int sort, String s, int fault, int place) {
        Boundaries.faultOf(sort, s, fault, place);
    }

    private static DogNotary fellOf(String s) {
        return Boundaries.with(FELL, s);
    }

    private static DogNotary bookOf(String s) {
        return Boundaries.with(BOOK, s);
    }

    private static DogNotary logOf(String s) {
        return Boundaries.with(LOG, s);
    }

    /** A number in a line: the least and the greatest that can be, and those beside them, which are FAULT 2 at its place. */
    private static void range(int sort, String ahead, int least, int greatest, String behind) {
        sound(sort, ahead + least + behind);
        sound(sort, ahead + greatest + behind);
        if (least > 0) {
            faultOf(sort, ahead + (least - 1) + behind, 2, ahead.length());
        }
        if (greatest < 99) {
            faultOf(sort, ahead + (greatest + 1) + behind, 2, ahead.length());
            faultOf(sort, ahead + 99 + behind, 2, ahead.length());
        } else {
            faultOf(sort, ahead + (greatest + 1) + behind, 1, ahead.length());
        }
    }

    // ---- term 1: the numbers of a fell ----

    static void term1_wide_is_2_to_8() {
        range(FELL, "size ", 2, 8, " 2;");
        faultOf(FELL, "size 0 2;", 2, 5);
        due("the least", fellOf("size 2 3;").fell(0, 0), 2);
        due("the greatest", fellOf("size 8 3;").fell(0, 0), 8);
    }

    static void term1_high_is_2_to_8() {
        range(FELL, "size 2 ", 2, 8, ";");
        faultOf(FELL, "size 2 0;", 2, 7);
        due("the least", fellOf("size 3 2;").fell(0, 1), 2);
        due("the greatest", fellOf("size 3 8;").fell(0, 1), 8);
    }

    static void term1_a_fell_at_first() {
        DogNotary x = fellOf("");
        int[] wanted = {6, 6, 0, 7, 3, 0};
        for (int what = 0; what < wanted.length; what++) {
            due("fell(0, " + what + ")", x.fell(0, what), wanted[what]);
        }
        for (int c = 0; c < 36; c++) {
            due("wall " + c, x.fell(0, 100 + c), 0);
        }
        due("a cell behind the last", x.fell(0, 136), NONE);
    }

    static void term1_at_first_by_the_least_size() {
        DogNotary x = fellOf("size 2 2;");
        due("the pen", x.fell(0, 2), 0);
        due("the dog", x.fell(0, 3), 3);
        due("the eye", x.fell(0, 4), 3);
    }

    static void term1_cells_are_numbered_by_wide() {
        for (int wide = 2; wide <= 8; wide++) {
            for (int high = 2; high <= 8; high += 3) {
                DogNotary x = fellOf("size " + wide + " " + high + ";pen 1 0;dog 0 0 1;ewe " + (wide - 1) + " " + (high - 1)
                    + ";wall 0 " + (high - 1) + ";");
                due("the first cell", x.fell(0, 3), 0);
                due("the next one", x.fell(0, 2), 1);
                due("the last row's first cell", x.fell(0, 100 + wide * (high - 1)), 1);
                due("the one ahead of it", x.fell(0, 100 + wide * (high - 1) - 1), 0);
                due("the last cell", x.fell(0, 20), wide * high - 1);
            }
        }
    }

    static void term1_columns_and_rows_of_a_fell_are_0_to_7() {
        for (String word : new String[] {"wall", "ewe", "ram", "bolter", "goose"}) {
            String ahead = "size 8 8;pen 1 3;dog 3 1 1;" + word;
            range(FELL, ahead + " ", 0, 7, " 2;");
            range(FELL, ahead + " 2 ", 0, 7, ";");
        }
        range(FELL, "size 8 8;pen ", 0, 7, " 2;");
        range(FELL, "size 8 8;pen 2 ", 0, 7, ";");
        range(FELL, "size 8 8;dog ", 0, 7, " 2 1;");
        range(FELL, "size 8 8;dog 2 ", 0, 7, " 1;");
    }

    static void term1_eye_of_a_fells_dog_is_1_to_9() {
        range(FELL, "dog 2 2 ", 1, 9, ";");
        due("the least", fellOf("dog 2 2 1;").fell(0, 4), 1);
        due("the greatest", fellOf("dog 2 2 9;").fell(0, 4), 9);
    }

    static void term1_beasts_are_at_most_6() {
        String six = "ewe 2 0;ram 3 0;bolter 4 0;goose 5 0;ewe 2 1;ewe 3 1;";
        due("six", fellOf(six).fell(0, 5), 6);
        for (String kind : KINDS) {
            faultOf(FELL, six + kind + " 4 1;", 3, six.length());
        }
        sound(FELL, six + "wall 4 1;pen 4 2;dog 4 3 1;size 7 7;");
    }

    static void term1_kinds_are_0_to_3() {
        DogNotary x = fellOf("ewe 2 0;ram 3 0;bolter 4 0;goose 5 0;");
        for (int b = 0; b < 4; b++) {
            due("kind of " + b, x.fell(0, 10 + b), b);
        }
    }

    // ---- term 1: the numbers of drives, books, logs ----

    static void term1_whistles_are_at_most_40() {
        String forty = "lie;".repeat(40);
        due("forty", Boundaries.with(DRIVE, forty).whistle(0, NONE, 0), 40);
        for (String one : new String[] {"go 0;", "lie;", "stand;", "back;"}) {
            faultOf(DRIVE, forty + one, 3, 160);
        }
    }

    static void term1_a_goings_direction_is_0_to_3() {
        range(DRIVE, "go ", 0, 3, ";");
        due("the least", Boundaries.with(DRIVE, "go 0;").whistle(0, 0, 1), 0);
        due("the greatest", Boundaries.with(DRIVE, "go 3;").whistle(0, 0, 1), 3);
    }

    static void term1_dogs_are_at_most_5() {
        due("five", bookOf("dog 1 0;".repeat(5)).book(0, 0), 5);
        faultOf(BOOK, "dog 1 0;".repeat(6), 3, 40);
        sound(BOOK, "dog 1 0;".repeat(5) + "bargain 1 0;".repeat(8) + "field 0;".repeat(10));
    }

    static void term1_a_dogs_eye_is_1_to_9_and_turns_0_to_3() {
        range(BOOK, "dog ", 1, 9, " 0;");
        range(BOOK, "dog 1 ", 0, 3, ";");
        due("the greatest eye", bookOf("dog 9 3;").book(0, 10), 9);
        due("the most turns", bookOf("dog 9 3;").book(0, 20), 3);
        due("no turns", bookOf("dog 1 0;").book(0, 20), 0);
    }

    static void term1_bargains_are_at_most_8() {
        due("eight", bookOf("bargain 1 0;".repeat(8)).book(0, 1), 8);
        faultOf(BOOK, "bargain 1 0;".repeat(9), 3, 96);
    }

    static void term1_a_bargains_eye_is_1_to_9_and_worth_0_to_99() {
        range(BOOK, "bargain ", 1, 9, " 0;");
        range(BOOK, "bargain 1 ", 0, 99, ";");
        due("the greatest eye", bookOf("bargain 9 99;").book(0, 30), 9);
        due("the most worth", bookOf("bargain 9 99;").book(0, 40), 99);
        due("no worth", bookOf("bargain 9 0;").book(0, 40), 0);
    }

    static void term1_fields_are_at_most_10() {
        due("ten", bookOf("field 0;".repeat(10)).book(0, 2), 10);
        faultOf(BOOK, "field 0;".repeat(11), 3, 80);
    }

    static void term1_a_fields_worth_is_0_to_99() {
        range(BOOK, "field ", 0, 99, ";");
        due("the most", bookOf("field 99;").book(0, 50), 99);
        due("the least", bookOf("field 0;").book(0, 50), 0);
    }

    static void term1_facts_are_at_most_8() {
        String eight = "stayed 0 0 0 1;".repeat(8);
        due("eight", logOf(eight).fact(0, NONE, 0), 8);
        faultOf(LOG, eight + "stayed 0 0 0 1;", 3, 120);
        faultOf(LOG, eight + "went 0 0 0 1 0;", 3, 120);
        faultOf(LOG, eight + "twice 0 0 0 1 0;", 3, 120);
    }

    static void term1_columns_and_rows_of_a_log_are_0_to_7() {
        for (String word : FACTS) {
            String behind = word.equals("stayed") ? ";" : " 0;";
            range(LOG, word + " ", 0, 7, " 2 3 3" + behind);
            range(LOG, word + " 2 ", 0, 7, " 3 3" + behind);
            range(LOG, word + " 3 3 ", 0, 7, " 2" + behind);
            range(LOG, word + " 3 3 2 ", 0, 7, behind);
        }
    }

    static void term1_a_facts_direction_is_0_to_3() {
        range(LOG, "went 3 3 2 2 ", 0, 3, ";");
        range(LOG, "twice 3 3 2 2 ", 0, 3, ";");
        faultOf(LOG, "stayed 3 3 2 2 0;", 1, 15);
    }

    static void term1_a_facts_dog_is_in_another_cell() {
        for (String word : FACTS) {
            String behind = word.equals("stayed") ? ";" : " 0;";
            faultOf(LOG, word + " 3 4 3 4" + behind, 2, word.length() + 7);
            faultOf(LOG, word + " 0 0 0 0" + behind, 2, word.length() + 7);
            faultOf(LOG, word + " 7 7 7 7" + behind, 2, word.length() + 7);
            sound(LOG, word + " 3 4 3 5" + behind);
            sound(LOG, word + " 3 4 3 3" + behind);
            sound(LOG, word + " 3 4 2 4" + behind);
            sound(LOG, word + " 3 4 4 4" + behind);
            sound(LOG, word + " 3 4 4 3" + behind);
        }
        // the dog's row is ahead of the direction, and behind the other three numbers
        faultOf(LOG, "went 3 4 3 4 4;", 2, 11);
        faultOf(LOG, "went 8 4 8 4 0;", 2, 5);
    }

    // ---- term 1: the tape and its tokens ----

    static void term1_the_tape_has_at_most_600_bytes() {
        String line = "wall 05 5;";
        sound(FELL, line.repeat(60));
        faultOf(FELL, line.repeat(59) + "wall 05 5!", 1, 599);
        faultOf(FELL, line.repeat(59) + "wall 05 5", 1, 599);
        faultOf(FELL, line.repeat(59) + "wall 05 05", 1, 600);
        faultOf(FELL, line.repeat(59) + "wall 06 5;", 4, 600);
        faultOf(FELL, line.repeat(59) + "wall 00 0;", 5, 600);
        DogNotary x = new DogNotary();
        PromisesTest.feedAll(x, line.repeat(60));
        due("one feed more", x.feed(0, 0, 0, 0, 0), NONE);
        due("the text all the same", x.text(FELL, NONE), 0);
    }

    private static boolean isBlank(int sign) {
        return sign == 10 || sign == 32;
    }

    private static boolean isLetter(int sign) {
        return sign >= 97 && sign <= 122;
    }

    private static boolean isDigit(int sign) {
        return sign >= 48 && sign <= 57;
    }

    /** Of all 256 bytes, what a word goes on with, and what it ends at. */
    static void term1_each_byte_behind_a_word() {
        for (int sign = 0; sign < 256; sign++) {
            String s = "ewe" + (char) sign + "2 3;";
            if (isBlank(sign) || sign == '0') {
                sound(FELL, s);
            } else if (isLetter(sign)) {
                faultOf(FELL, s, 1, 0);
            } else {
                faultOf(FELL, s, isDigit(sign) ? 2 : 1, 3);
            }
        }
    }

    static void term1_each_byte_as_a_number() {
        for (int sign = 0; sign < 256; sign++) {
            String s = "go " + (char) sign + ";";
            if (sign >= '0' && sign <= '3') {
                sound(DRIVE, s);
            } else if (isDigit(sign)) {
                faultOf(DRIVE, s, 2, 3);
            } else {
                faultOf(DRIVE, s, 1, isBlank(sign) ? 4 : 3);
            }
        }
    }

    static void term1_each_byte_behind_a_line() {
        for (int sign = 0; sign < 256; sign++) {
            if (isBlank(sign)) {
                sound(DRIVE, "lie;" + (char) sign);
            } else {
                faultOf(DRIVE, "lie;" + (char) sign, 1, 4);
            }
        }
    }

    static void term1_a_number_has_1_or_2_digits() {
        faultOf(BOOK, "field ;", 1, 6);
        sound(BOOK, "field 7;");
        sound(BOOK, "field 07;");
        sound(BOOK, "field 00;");
        faultOf(BOOK, "field 007;", 1, 6);
        faultOf(BOOK, "field 000;", 1, 6);
        faultOf(BOOK, "field 0000000000007;", 1, 6);
        faultOf(BOOK, "field 4294967296;", 1, 6);
        faultOf(BOOK, "field 0 7;", 1, 8);
        faultOf(BOOK, "field 0 007", 1, 8);
        faultOf(BOOK, "field 0 007;", 1, 8);
        faultOf(BOOK, "007", 1, 0);
        faultOf(BOOK, "field 0;007", 1, 8);
        faultOf(BOOK, "field 0;07", 1, 8);
        due("two digits", bookOf("field 07;").book(0, 50), 7);
        due("the second digit is the lower one", bookOf("field 70;").book(0, 50), 70);
    }

    static void term1_an_empty_text_and_one_of_blanks() {
        for (int sort = 0; sort < 4; sort++) {
            sound(sort, "");
            sound(sort, " ");
            sound(sort, "\n");
            sound(sort, " \n  \n\n ");
            faultOf(sort, ";", 1, 0);
            faultOf(sort, " ;", 1, 1);
        }
    }

    static void term1_blanks_between_tokens() {
        sound(FELL, "\n\n  size\n3 \n 3  ;\n\npen 0 0 ; ");
        sound(FELL, "size 3 3;pen 0 0;");
        faultOf(FELL, "si ze 3 3;", 1, 0);
        faultOf(FELL, "size 3 3;pen 1 0 0;", 1, 17);
        faultOf(FELL, "size 3 3;pen1 0 0;", 1, 16);
    }

    private static final String[][] LINES = {
        {"size 3 3;", "wall 3 3;", "pen 3 3;", "ewe 3 3;", "ram 3 3;", "bolter 3 3;", "goose 3 3;", "dog 3 3 3;"},
        {"go 3;", "lie;", "stand;", "back;"},
        {"dog 3 3;", "bargain 3 3;", "field 3;"},
        {"went 3 3 3 4 3;", "twice 3 3 3 4 3;", "stayed 3 3 3 4;"}};

    static void term1_a_words_letters_are_just_those() {
        for (int sort = 0; sort < 4; sort++) {
            for (String line : LINES[sort]) {
                sound(sort, line);
                faultOf(sort, line.substring(1), 1, 0);
                faultOf(sort, "x" + line, 1, 0);
                faultOf(sort, line.replaceFirst("[a-z](?![a-z])", ""), 1, 0);
                faultOf(sort, line.replaceFirst("[a-z](?![a-z])", "$0s"), 1, 0);
                faultOf(sort, (char) (line.charAt(0) - 32) + line.substring(1), 1, 0);
            }
        }
    }

    static void term1_each_letter_of_a_word_counts() {
        for (int sort = 0; sort < 4; sort++) {
            for (String line : LINES[sort]) {
                for (int i = 0; i < line.length() && isLetter(line.charAt(i)); i++) {
                    char other = line.charAt(i) == 'q' ? 'z' : 'q';
                    faultOf(sort, line.substring(0, i) + other + line.substring(i + 1), 1, 0);
                }
            }
        }
    }

    static void term1_a_token_ends_where_the_tape_ends() {
        String[] all = {"liex", "go 123", "go 12;", "lie;"};
        int[] ends = {3, 5, 4, 3};
        for (int i = 0; i < all.length; i++) {
            DogNotary x = new DogNotary();
            PromisesTest.feedAll(x, all[i]);
            due("cut '" + all[i] + "'", x.end(ends[i]), ends[i]);
            due("its text", x.text(DRIVE, NONE), NONE);
            due("its fault", x.fault(0), 1);
            due("its place: the end's", x.fault(1), ends[i]);
        }
        faultOf(DRIVE, " ".repeat(597) + "lie", 1, 600);
        faultOf(DRIVE, " ".repeat(596) + "go 1", 1, 600);
        faultOf(DRIVE, " ".repeat(600), 0, NONE);
        faultOf(DRIVE, " ".repeat(596) + "lie;", 0, NONE);
    }

    static void term1_a_sorts_lines_are_no_other_sorts() {
        for (int sort = 0; sort < 4; sort++) {
            for (int other = 0; other < 4; other++) {
                for (String line : LINES[other]) {
                    if (other != sort && !line.startsWith("dog")) {
                        faultOf(sort, line, 1, 0);
                    }
                }
            }
        }
        faultOf(FELL, "dog 3 3;", 1, 7);
        faultOf(BOOK, "dog 3 3 3;", 1, 8);
    }

    static void term1_a_line_has_just_so_many_numbers() {
        for (int sort = 0; sort < 4; sort++) {
            for (String line : LINES[sort]) {
                int end = line.length() - 1;
                faultOf(sort, line.substring(0, end) + " 3;", 1, end + 1);
                faultOf(sort, line.substring(0, end), 1, end);
                faultOf(sort, line + ";", 1, end + 1);
                int last = line.lastIndexOf(' ');
                if (last > 0) {
                    faultOf(sort, line.substring(0, last) + ";", 1, last);
                    faultOf(sort, line.substring(0, last), 1, last);
                }
            }
        }
    }

    // ---- term 1: what strikes, and the faults ----

    static void term1_later_ones_strike() {
        DogNotary x = fellOf("size 3 3;pen 2 2;dog 3 3 1;size 5 4;pen 3 1;dog 4 2 9;");
        int[] wanted = {5, 4, 8, 14, 9};
        for (int what = 0; what < wanted.length; what++) {
            due("fell(0, " + what + ")", x.fell(0, what), wanted[what]);
        }
    }

    static void term1_walls_and_beasts_are_further_ones() {
        DogNotary x = fellOf("size 4 4;wall 2 0;wall 3 0;wall 2 0;ewe 2 1;ewe 3 1;");
        due("the first wall", x.fell(0, 102), 1);
        due("the second wall", x.fell(0, 103), 1);
        due("beasts", x.fell(0, 5), 2);
        due("the first beast", x.fell(0, 20), 6);
        due("the second beast", x.fell(0, 21), 7);
    }

    static void term1_fault_1_goes_ahead_of_all() {
        faultOf(FELL, "size 9 9;x", 1, 9);
        faultOf(FELL, "ewe 2 0;".repeat(7) + "#", 1, 56);
        faultOf(FELL, "wall 0 0;wall 7 7", 1, 17);
        faultOf(DRIVE, "lie;".repeat(41) + "lie", 1, 167);
        faultOf(DRIVE, "go 9;go", 1, 7);
        faultOf(LOG, "stayed 0 0 0 0;stayed 100 0 0 0;", 1, 22);
        faultOf(BOOK, "field 100;field", 1, 6);
    }

    static void term1_faults_2_and_3_go_by_place() {
        faultOf(FELL, "ewe 9 0;" + "ewe 2 0;".repeat(6), 2, 4);
        faultOf(FELL, "ewe 2 0;".repeat(6) + "ewe 9 0;", 3, 48);
        faultOf(FELL, "ewe 2 0;".repeat(5) + "ewe 2 8;" + "ewe 2 0;", 2, 46);
        faultOf(DRIVE, "go 4;" + "lie;".repeat(40), 2, 3);
        faultOf(DRIVE, "lie;".repeat(40) + "go 4;", 3, 160);
        faultOf(BOOK, "dog 1 0;".repeat(6) + "field 0;".repeat(11), 3, 40);
        faultOf(BOOK, "field 0;".repeat(11) + "dog 1 0;".repeat(6), 3, 80);
        faultOf(BOOK, "dog 0 4;", 2, 4);
        faultOf(LOG, "stayed 0 0 0 1;".repeat(8) + "stayed 0 0 0 0;", 3, 120);
        faultOf(LOG, "stayed 0 0 0 0;" + "stayed 0 0 0 1;".repeat(8), 2, 13);
    }

    static void term1_faults_2_and_3_go_ahead_of_4_and_5() {
        faultOf(FELL, "wall 0 0;wall 7 7;ewe 8 0;", 2, 22);
        faultOf(FELL, "ewe 0 0;".repeat(7), 3, 48);
        faultOf(FELL, "ewe 0 0;".repeat(6), 5, 48);
        faultOf(FELL, "ewe 7 7;".repeat(6), 4, 48);
    }

    static void term1_fault_4_a_cell_is_not_there() {
        for (int most = 2; most < 8; most++) {
            for (String word : new String[] {"wall", "pen", "dog", "ewe", "ram", "bolter", "goose"}) {
                String behind = word.equals("dog") ? " 1;" : ";";
                sound(FELL, "size " + most + " 8;" + word + " " + (most - 1) + " 5" + behind);
                String out = "size " + most + " 8;" + word + " " + most + " 5" + behind;
                faultOf(FELL, out, 4, out.length());
                sound(FELL, "size 8 " + most + ";" + word + " 5 " + (most - 1) + behind);
                String under = "size 8 " + most + ";" + word + " 5 " + most + behind + "\n ";
                faultOf(FELL, under, 4, under.length());
            }
        }
    }

    static void term1_fault_4_goes_by_the_size_in_the_end() {
        sound(FELL, "ewe 6 2;size 7 6;");
        faultOf(FELL, "ewe 7 2;size 7 6;", 4, 17);
        faultOf(FELL, "size 7 6;ewe 6 2;size 6 6;", 4, 26);
        sound(FELL, "size 7 6;ewe 5 2;size 6 6;");
    }

    static void term1_fault_4_asks_after_what_was_struck() {
        faultOf(FELL, "pen 6 0;pen 0 0;", 4, 16);
        sound(FELL, "pen 5 0;pen 0 0;");
        faultOf(FELL, "dog 2 6 1;dog 1 1 3;", 4, 20);
        sound(FELL, "dog 2 5 1;dog 1 1 3;");
    }

    static void term1_fault_4_goes_ahead_of_5() {
        faultOf(FELL, "wall 0 0;wall 6 0;", 4, 18);
        faultOf(FELL, "wall 0 0;wall 5 0;", 5, 18);
    }

    static void term1_fault_5_a_wall() {
        faultOf(FELL, "wall 0 0;", 5, 9);
        faultOf(FELL, "wall 1 1;", 5, 9);
        faultOf(FELL, "pen 3 3;wall 3 3;", 5, 17);
        faultOf(FELL, "wall 3 3;dog 3 3 1;", 5, 19);
        for (String kind : KINDS) {
            faultOf(FELL, "wall 3 3;" + kind + " 3 3;", 5, kind.length() + 14);
            sound(FELL, "wall 3 3;" + kind + " 3 4;");
            sound(FELL, "wall 3 3;" + kind + " 4 3;");
        }
        sound(FELL, "wall 0 1;wall 1 0;wall 2 1;wall 1 2;");
        sound(FELL, "wall 3 3;wall 3 3;");
        faultOf(FELL, "size 8 8;pen 7 7;wall 7 7;", 5, 26);
    }

    static void term1_fault_5_in_the_pen() {
        faultOf(FELL, "dog 0 0 1;", 5, 10);
        faultOf(FELL, "pen 1 1;", 5, 8);
        sound(FELL, "dog 0 1 1;");
        sound(FELL, "pen 1 0;");
        for (String kind : KINDS) {
            faultOf(FELL, kind + " 0 0;", 5, kind.length() + 5);
            sound(FELL, kind + " 0 1;");
            sound(FELL, kind + " 1 0;");
        }
    }

    static void term1_fault_5_a_beast_where_another_or_the_dog_is() {
        for (String kind : KINDS) {
            faultOf(FELL, kind + " 1 1;", 5, kind.length() + 5);
            sound(FELL, kind + " 2 1;");
            faultOf(FELL, "ewe 2 2;" + kind + " 2 2;", 5, kind.length() + 13);
            sound(FELL, "ewe 2 2;" + kind + " 2 3;");
        }
        faultOf(FELL, "ewe 2 2;ewe 3 2;ewe 4 2;ewe 5 2;ewe 2 3;ewe 2 2;", 5, 48);
        faultOf(FELL, "ewe 2 2;ewe 3 2;ewe 4 2;ewe 5 2;ewe 2 3;ewe 2 3;", 5, 48);
        sound(FELL, "ewe 2 2;ewe 3 2;ewe 4 2;ewe 5 2;ewe 2 3;ewe 3 3;");
    }

    static void term1_fault_5_goes_by_what_is_there_in_the_end() {
        sound(FELL, "wall 3 3;pen 3 3;pen 0 0;");
        sound(FELL, "dog 0 0 1;dog 1 1 1;");
        sound(FELL, "ewe 0 0;wall 1 1;pen 4 4;dog 5 5 1;");
    }

    // ---- term 2: who is driven, and where it goes ----

    /** A fell 8 by 8 with the dog in its first cell, and a beast so many steps from him: along the top, then down the side. */
    private static String apart(String kind, int steps, int eye) {
        int column = Math.min(steps, 7);
        return "size 8 8;pen 0 7;dog 0 0 " + eye + ";" + kind + " " + column + " " + (steps - column) + ";";
    }

    private static int cellApart(int steps) {
        int column = Math.min(steps, 7);
        return 8 * (steps - column) + column;
    }

    static void term2_an_ewe_is_driven_at_eye_steps_and_no_further() {
        for (int eye = 1; eye <= 9; eye++) {
            due("eye " + eye + ", as many steps", fellOf(apart("ewe", eye, eye)).shy(0, 0), cellApart(eye + 1));
            due("eye " + eye + ", one step more", fellOf(apart("ewe", eye + 1, eye)).shy(0, 0), cellApart(eye + 1));
            due("eye " + eye + ", two steps more", fellOf(apart("ewe", eye + 2, eye)).shy(0, 0), cellApart(eye + 2));
        }
    }

    static void term2_a_ram_is_driven_at_1_step_alone() {
        for (int eye = 1; eye <= 9; eye++) {
            due("eye " + eye + ", 1 step", fellOf(apart("ram", 1, eye)).shy(0, 0), 2);
            due("eye " + eye + ", 2 steps", fellOf(apart("ram", 2, eye)).shy(0, 0), 2);
            due("eye " + eye + ", 3 steps", fellOf(apart("ram", 3, eye)).shy(0, 0), 3);
        }
    }

    static void term2_a_goose_comes_nearer_from_eye_steps_down_to_1() {
        due("1 step: next to him", fellOf(apart("goose", 1, 9)).shy(0, 0), 1);
        for (int eye = 2; eye <= 9; eye++) {
            due("eye " + eye + ", as many steps", fellOf(apart("goose", eye, eye)).shy(0, 0), cellApart(eye - 1));
            due("eye " + eye + ", one step more", fellOf(apart("goose", eye + 1, eye)).shy(0, 0), cellApart(eye + 1));
        }
        due("eye 1, 2 steps", fellOf(apart("goose", 2, 1)).shy(0, 0), 2);
    }

    static void term2_a_bolters_second_step_goes_beyond_the_eye() {
        for (int eye = 1; eye <= 9; eye++) {
            due("eye " + eye + ", as many steps", fellOf(apart("bolter", eye, eye)).shy(0, 0), cellApart(eye + 2));
            due("eye " + eye + ", one step more", fellOf(apart("bolter", eye + 1, eye)).shy(0, 0), cellApart(eye + 1));
        }
    }

    static void term2_a_bolter_without_a_second_step() {
        // a lane to the right with one cell free; then none
        String lane = "size 4 2;pen 0 1;dog 0 0 9;bolter 1 0;wall 1 1;wall 2 1;wall 3 1;";
        due("two cells free", fellOf(lane).shy(0, 0), 3);
        due("one cell free", fellOf(lane + "wall 3 0;").shy(0, 0), 2);
        due("none free", fellOf(lane + "wall 3 0;wall 2 0;").shy(0, 0), 1);
        due("a beast in the second", fellOf(lane + "ewe 3 0;").shy(0, 0), 2);
    }

    static void term2_a_bolter_stops_in_the_pen() {
        due("the pen is the first cell", fellOf("size 5 2;pen 2 0;dog 0 0 9;bolter 1 0;").shy(0, 0), 2);
        due("the pen is the second cell", fellOf("size 5 2;pen 3 0;dog 0 0 9;bolter 1 0;").shy(0, 0), 3);
        due("the pen is the third cell", fellOf("size 5 2;pen 4 0;dog 0 0 9;bolter 1 0;").shy(0, 0), 3);
    }

    static void term2_directions_come_up_right_down_left() {
        // cells on 6 by 6: up 15, right 22, down 27, left 20, its own 21
        String dogLeft = "dog 2 3 1;ewe 3 3;";
        due("up", fellOf(dogLeft).shy(0, 0), 15);
        due("right", fellOf(dogLeft + "wall 3 2;").shy(0, 0), 22);
        due("down", fellOf(dogLeft + "wall 3 2;wall 4 3;").shy(0, 0), 27);
        due("none: it stays", fellOf(dogLeft + "wall 3 2;wall 4 3;wall 3 4;").shy(0, 0), 21);
        String dogRight = "dog 4 3 1;ewe 3 3;wall 3 2;";
        due("down ahead of left", fellOf(dogRight).shy(0, 0), 27);
        due("left", fellOf(dogRight + "wall 3 4;").shy(0, 0), 20);
        due("none", fellOf(dogRight + "wall 3 4;wall 2 3;").shy(0, 0), 21);
    }

    static void term2_another_beasts_cell_bars_as_a_wall_does() {
        String ahead = "dog 2 3 1;ewe 3 3;";
        due("right", fellOf(ahead + "ram 3 2;").shy(0, 0), 22);
        due("down", fellOf(ahead + "ram 3 2;goose 4 3;").shy(0, 0), 27);
        due("none", fellOf(ahead + "ram 3 2;goose 4 3;bolter 3 4;").shy(0, 0), 21);
    }

    static void term2_a_cell_that_is_not_there_bars() {
        due("in the corner on top, left", fellOf("pen 3 3;dog 0 1 1;ewe 0 0;").shy(0, 0), 1);
        due("on top, right", fellOf("dog 4 0 1;ewe 5 0;").shy(0, 0), 11);
        due("at the bottom, right", fellOf("dog 5 4 1;ewe 5 5;").shy(0, 0), 34);
        due("at the bottom, left", fellOf("dog 1 5 1;ewe 0 5;").shy(0, 0), 24);
        due("shut in there", fellOf("dog 1 5 1;ewe 0 5;wall 0 4;").shy(0, 0), 30);
    }

    static void term2_in_the_pen_there_may_be_several() {
        String lane = "size 5 2;pen 4 0;dog 0 0 9;ewe 3 0;ewe 2 0;wall 0 1;wall 1 1;wall 2 1;wall 3 1;wall 4 1;";
        DogNotary x = Boundaries.withDrive(lane, "back;back;back;back;back;back;");
        due("none at first", x.state(0, 0, 1, 4), 0);
        due("one", x.state(0, 0, 2, 4), 1);
        due("the other one behind it", x.state(0, 0, 2, 11), 3);
        due("both", x.state(0, 0, 4, 4), 3);
        due("the first one's cell", x.state(0, 0, 4, 10), 4);
        due("the second one's cell", x.state(0, 0, 4, 11), 4);
        due("they go no more", x.state(0, 0, 6, 5), 3);
    }

    static void term2_one_that_is_penned_goes_no_more() {
        // the pen in the middle of a row: the ewe is penned and would have room behind it
        DogNotary x = Boundaries.withDrive("size 5 2;pen 2 0;dog 0 0 9;ewe 1 0;wall 1 1;", "back;back;go 1;back;back;");
        due("ahead of it", x.state(0, 0, 1, 10), 1);
        due("penned", x.state(0, 0, 2, 10), 2);
        due("he is next to her", x.state(0, 0, 3, 1), 1);
        due("she stays", x.state(0, 0, 5, 10), 2);
        due("her steps", x.state(0, 0, 5, 20), 1);
    }

    static void term2_he_who_lies_or_has_turned_his_back_drives_none() {
        String fell = "size 8 2;pen 0 1;dog 0 0 9;ewe 1 0;wall 1 1;wall 2 1;wall 3 1;wall 4 1;wall 5 1;wall 6 1;wall 7 1;";
        DogNotary x = Boundaries.withDrive(fell, "lie;back;stand;lie;back;stand;back;back;");
        int[] ewe = {1, 1, 1, 1, 1, 1, 2, 2, 3};
        for (int n = 0; n < ewe.length; n++) {
            due("the ewe behind " + n, x.state(0, 0, n, 10), ewe[n]);
        }
    }

    // ---- term 2: which whistles can't be ----

    private static void ends(String fell, String drive, int end) {
        DogNotary x = Boundaries.withDrive(fell, drive);
        due("till of '" + drive + "' on '" + fell + "'", x.till(0, 0), end);
    }

    static void term2_go_not_beyond_the_fell() {
        ends("size 8 8;pen 7 0;dog 3 7 1;", "go 0;".repeat(8), 7);
        ends("size 8 8;pen 0 0;dog 0 4 1;", "go 1;".repeat(8), 7);
        ends("size 8 8;pen 7 0;dog 3 0 1;", "go 2;".repeat(8), 7);
        ends("size 8 8;pen 0 0;dog 7 4 1;", "go 3;".repeat(8), 7);
        ends("size 2 2;pen 1 0;dog 0 0 1;", "go 2;go 1;go 3;go 0;go 0;", 4);
        ends("size 2 2;", "go 1;", 0);
        ends("size 2 2;", "go 2;", 0);
    }

    static void term2_go_not_into_a_wall_the_pen_a_beast() {
        for (int d = 0; d < 4; d++) {
            int column = d == 1 ? 4 : d == 3 ? 2 : 3;
            int row = d == 0 ? 2 : d == 2 ? 4 : 3;
            String there = " " + column + " " + row;
            String go = "go " + d + ";";
            ends("dog 3 3 1;", go, 1);
            ends("dog 3 3 1;wall" + there + ";", go, 0);
            ends("dog 3 3 1;pen" + there + ";", go, 0);
            for (String kind : KINDS) {
                ends("dog 3 3 1;" + kind + there + ";", go, 0);
            }
        }
    }

    static void term2_go_of_one_who_lies_or_has_turned_his_back() {
        DogNotary x = Boundaries.withDrive("", "lie;go 1;stand;");
        due("till", x.till(0, 0), 2);
        due("he lies", x.state(0, 0, 1, 2), 1);
        due("he stands, then", x.state(0, 0, 2, 2), 0);
        DogNotary y = Boundaries.withDrive("", "back;go 1;back;");
        due("till", y.till(0, 0), 3);
        due("his back stays turned", y.state(0, 0, 2, 3), 1);
        due("his face again", y.state(0, 0, 3, 3), 0);
    }

    static void term2_lie_of_one_who_stood_and_stand_of_one_who_lay() {
        ends("", "lie;", 1);
        ends("", "lie;lie;", 1);
        ends("", "stand;", 0);
        ends("", "lie;stand;", 2);
        ends("", "lie;stand;stand;", 2);
        ends("", "lie;stand;lie;lie;", 3);
        ends("", "lie;back;lie;", 2);
        ends("", "back;stand;", 1);
    }

    static void term2_a_whistle_that_cant_be_ends_all_behind_it() {
        DogNotary x = Boundaries.withDrive("", "go 1;stand;go 1;");
        due("till", x.till(0, 0), 1);
        due("the last state", x.state(0, 0, 1, 1), 8);
        due("the next one", x.state(0, 0, 2, 1), -2);
        due("the one behind it", x.state(0, 0, 3, 1), -2);
    }

    static void term2_end_is_how_many_there_are() {
        ends("", "", 0);
        ends("", "back;", 1);
        ends("", "back;".repeat(39), 39);
        ends("", "back;".repeat(40), 40);
        ends("", "back;".repeat(39) + "stand;", 39);
    }

    static void term2_beasts_go_by_numbers() {
        String lane = "size 6 2;pen 5 1;dog 0 0 9;wall 0 1;wall 1 1;wall 2 1;wall 3 1;wall 4 1;";
        DogNotary front = Boundaries.withDrive(lane + "ewe 2 0;ewe 1 0;", "back;back;");
        due("the front one is the first", front.state(0, 0, 2, 10), 3);
        due("so the other one has room", front.state(0, 0, 2, 11), 2);
        DogNotary behind = Boundaries.withDrive(lane + "ewe 1 0;ewe 2 0;", "back;back;");
        due("the one behind is the first, and stays", behind.state(0, 0, 2, 10), 1);
        due("the front one", behind.state(0, 0, 2, 11), 3);
    }

    static void term2_a_minute_goes_by_behind_each_whistle() {
        DogNotary x = Boundaries.withDrive("", "back;".repeat(40));
        due("none at first", x.state(0, 0, 0, 0), 0);
        due("one", x.state(0, 0, 1, 0), 1);
        due("forty", x.state(0, 0, 40, 0), 40);
    }

    static void term2_no_minute_goes_by_ahead_of_the_first_whistle() {
        DogNotary x = Boundaries.withDrive("size 4 2;pen 0 1;dog 0 0 9;ewe 1 0;wall 1 1;", "lie;stand;");
        due("she is where she was told to be", x.state(0, 0, 0, 10), 1);
        due("he lies by then", x.state(0, 0, 1, 10), 1);
        due("he stands", x.state(0, 0, 2, 10), 2);
    }

    static void term2_a_state_is_there_up_to_end() {
        DogNotary x = Boundaries.withDrive("", "go 1;go 1;lie;lie;back;");
        due("END", x.till(0, 0), 3);
        due("n below 0", x.state(0, 0, -1, 1), -2);
        due("n 0", x.state(0, 0, 0, 1), 7);
        due("n as END", x.state(0, 0, 3, 1), 9);
        due("n one more", x.state(0, 0, 4, 1), -2);
        due("n as many as there are", x.state(0, 0, 5, 1), -2);
    }

    static void term2_the_dogs_own_cell_bars_a_goose() {
        // next to him only his own cell is nearer
        DogNotary x = Boundaries.withDrive("size 4 2;pen 3 1;dog 0 0 9;goose 2 0;", "back;back;back;back;");
        due("it comes next to him", x.state(0, 0, 2, 10), 1);
        due("and no further", x.state(0, 0, 4, 10), 1);
    }
}
