import java.util.Arrays;
import java.util.List;

/** "Terms", up to the grammar of THE LAW: what THE VALLEY is made of, and how much of it there may be. */
final class ValleyWords {
    private static final String[] KINDS = {"section 0 1 1 1", "flood 1 1 1", "person 0 0", "rock 0 0", "table 1 1 1"};
    private static final String[] LINES = {"lanes 3", "last 40", "section 0 1 2 3", "snow 5 fall 1", "stripe 1",
        "seed 7", "flood 1 2 3", "person 0 1 watch 2", "person 0 1", "rock 0 1", "table 1 2 3"};

    private ValleyWords() {
    }

    static void all() {
        Doc.says(Doc.TERMS, "LANES: L (1 to 6; 3 at first), numbered from 0 on;", ValleyWords::lanes);
        Doc.says(Doc.TERMS, "ROWS 0 to LAST (10 to 99; 40 at first): the LIP.", ValleyWords::rows);
        Doc.says(Doc.TERMS, "SECTIONS (at most 8, numbered from 0 on):", ValleyWords::sections);
        Doc.says(Doc.TERMS, "from a ROW on", ValleyWords::sectionFromItsRowOn);
        Doc.says(Doc.TERMS, "(each a greater one than the one before;", ValleyWords::sectionGreater);
        Doc.says(Doc.TERMS, "the first from 0 on),", ValleyWords::sectionFirst);
        Doc.says(Doc.TERMS, "of each LANE a SPEED 0 to 20.", ValleyWords::speeds);
        Doc.says(Doc.TERMS, "SNOW: a ROW: above it (lesser ROWS) it snows", ValleyWords::snow);
        Doc.says(Doc.TERMS, "(10 at first);", ValleyWords::snowAtFirst);
        Doc.says(Doc.TERMS, "FALL 0 to 9 (2 at first).", ValleyWords::fall);
        Doc.says(Doc.TERMS, "STRIPE: a LANE 0 to L:", ValleyWords::stripe);
        Doc.says(Doc.TERMS, "LANES below it are of the first stream, all others of the second", ValleyWords::streams);
        Doc.says(Doc.TERMS, "(L at first).", ValleyWords::stripeAtFirst);
        Doc.says(Doc.TERMS, "YEARS 0 to 299.", ValleyWords::years);
        Doc.says(Doc.TERMS, "HEAT of a YEAR Y: 0 to 9:", ValleyWords::heatBounds);
        Doc.says(Doc.TERMS, "DRAW Y (the first is DRAW 0) modulo 10 of SEED", ValleyWords::firstDraw);
        Doc.says(Doc.TERMS, "(0 to 9999; 1 at first):", ValleyWords::seed);
        Doc.says(Doc.TERMS, "DRAW: the number, SEED at first, is 1103515245 times it and 12345, as an int that goes round;",
                ValleyWords::draws);
        Doc.says(Doc.TERMS, "bits 16 to 30.", ValleyWords::bitsOfADraw);
        Doc.says(Doc.TERMS, "NOW: a YEAR (0 at first).", ValleyWords::now);
        Doc.says(Doc.TERMS, "FLOODS (at most 8):", ValleyWords::floods);
        Doc.says(Doc.TERMS, "a YEAR, from a ROW on, N 1 to 20.", ValleyWords::flood);
        Doc.says(Doc.TERMS, "PEOPLE (at most 8, numbered from 0 on):", ValleyWords::people);
        Doc.says(Doc.TERMS, "a HUT at a LANE and a ROW (below LAST);", ValleyWords::hut);
        Doc.says(Doc.TERMS, "WATCHES a LANE or none.", ValleyWords::watches);
        Doc.says(Doc.TERMS, "LETTERS (at most 24, numbered from 0 on):", ValleyWords::letters);
        Doc.says(Doc.TERMS, "from a PERSON, to a PERSON, thrown in a YEAR at a LANE and a ROW, 0 deep;", ValleyWords::letter);
        Doc.says(Doc.TERMS, "a ROCK is a LETTER, too, to nobody (from nobody), that stays on top.", ValleyWords::rock);
        Doc.says(Doc.TERMS, "OPENED: by whom, in which YEAR.", ValleyWords::opened);
        texts();
    }

    private static void texts() {
        Doc.says(Doc.TERMS, "THE VALLEY is told in texts (at most 12, one behind another):", ValleyWords::twelveTexts);
        Doc.says(Doc.TERMS, "LINE { ; LINE }, at most 14:", ValleyWords::fourteenLines);
        Doc.says(Doc.TERMS, "lanes L | last R | section R S { S } | snow R fall N | stripe L | seed N | flood Y R N"
                + " | person L R watch L | person L R | rock L R | table S { S }.", ValleyWords::lines);
        Doc.says(Doc.TERMS, "section: just L SPEEDS.", ValleyWords::justAsManySpeeds);
        Doc.says(Doc.TERMS, "lanes, last: only as long as there is no SECTION, FLOOD, PERSON, LETTER, TABLE (else that word"
                + " is wrong);", ValleyWords::onlyWhileThereIsNone);
        Doc.says(Doc.TERMS, "by lanes STRIPE is L, by last SNOW is 10 again.", ValleyWords::again);
        Doc.says(Doc.TERMS, "R: 0 to LAST less 1", ValleyWords::rowsOfTexts);
        Doc.says(Doc.TERMS, "(of section: above that of the one before, 0 the first);", ValleyWords::rowsOfSections);
        Doc.says(Doc.TERMS, "Y: NOW to 299;", ValleyWords::yearsOfFloods);
        Doc.says(Doc.TERMS, "N of snow 0 to 9.", ValleyWords::nOfSnow);
        Doc.says(Doc.TERMS, "rock: thrown in NOW.", ValleyWords::rockNow);
        Doc.says(Doc.TERMS, "table: see POLES.", ValleyWords::table);
        Doc.says(Doc.TERMS, "Numbers are of 1 to 4 digits.", ValleyWords::digits);
    }

    private static void lanes() {
        Check.same("at first", new GlacierMail().count(0), 3);
        Texts.bounds("lanes ", "", 1, 6);
        Texts.wrong("lanes 10", 6);
        for (int lanes = 1; lanes <= 6; lanes++) {
            GlacierMail mail = Check.told("lanes " + lanes);
            int beyond = lanes;
            Check.same("LANES", mail.count(0), lanes);
            Check.same("the first of " + lanes, mail.speed(0, 0), 0);
            Check.same("the last of " + lanes, mail.speed(lanes - 1, 0), 0);
            Check.index("one more than " + lanes, () -> mail.speed(beyond, 0));
            Check.index("one below", () -> mail.speed(-1, 0));
        }
    }

    private static void rows() {
        Check.same("at first", new GlacierMail().count(1), 40);
        Texts.bounds("last ", "", 10, 99);
        Texts.wrong("last 0", 5);
        for (int last : new int[] {10, 40, 99}) {
            GlacierMail mail = Texts.told("last " + last, "section 0 1 1 1;rock 0 " + (last - 1) + ";rock 0 " + (last - 2));
            Check.same("LAST", mail.count(1), last);
            Check.same("the first row", mail.speed(0, 0), 1);
            Check.same("the last row ahead of the LIP", mail.speed(0, last - 1), 1);
            Check.index("the LIP itself", () -> mail.speed(0, last));
            Check.index("a row below 0", () -> mail.speed(0, -1));
            Check.same("at the LIP", mail.where(0, 1), last);
            Check.same("it is out there", mail.letter(0, 7), 1);
            Check.same("ahead of the LIP", mail.where(1, 1), last - 1);
            Check.same("it is not out there", mail.letter(1, 7), 2);
        }
    }

    private static String sections(int many) {
        StringBuilder text = new StringBuilder();
        for (int i = 0; i < many; i++) {
            text.append(i > 0 ? ";" : "").append("section ").append(i).append(" 1 1 ").append(i);
        }
        return text.toString();
    }

    private static void sections() {
        Check.same("none", new GlacierMail().count(2), 0);
        GlacierMail mail = Check.told(sections(8));
        Check.same("eight", mail.count(2), 8);
        for (int i = 0; i < 8; i++) {
            Check.same("section " + i, mail.speed(2, i), i);
        }
        Check.wrongValley(mail, " section 8 1 1 1", 1);
        Check.same("still eight", mail.count(2), 8);
        Texts.wrong(sections(9), sections(8).length() + 1);
    }

    private static void sectionFromItsRowOn() {
        GlacierMail mail = Check.told("section 0 1 2 3;section 7 4 5 6;section 39 7 8 9");
        int[] rows = {0, 6, 7, 38, 39};
        int[] due = {2, 2, 5, 5, 8};
        for (int i = 0; i < rows.length; i++) {
            Check.same("row " + rows[i], mail.speed(1, rows[i]), due[i]);
        }
    }

    private static void sectionGreater() {
        String[] before = {"section 0 1 1 1;section 5 1 1 1"};
        Check.wrongValley(Texts.told(before), "section 5 1 1 1", 8);
        Check.wrongValley(Texts.told(before), "section 4 1 1 1", 8);
        Check.wrongValley(Texts.told(before), "section 0 1 1 1", 8);
        Texts.right(Texts.told(before), "section 6 1 1 1");
        Texts.wrong("section 0 1 1 1;section 0 1 1 1", 24);
        Texts.right("section 0 1 1 1;section 1 1 1 1");
    }

    private static void sectionFirst() {
        Texts.right("section 0 1 1 1");
        Texts.wrong("section 1 1 1 1", 8);
        Texts.wrong("section 39 1 1 1", 8);
        // what stood in a wrong text was not the first
        GlacierMail mail = new GlacierMail();
        Check.wrongValley(mail, "section 0 1 1 1;x", 16);
        Check.wrongValley(mail, "section 1 1 1 1", 8);
    }

    private static void speeds() {
        Texts.bounds("section 0 ", " 1 1", 0, 20);
        Texts.bounds("section 0 1 1 ", "", 0, 20);
        GlacierMail mail = Check.told("section 0 0 20 7");
        Check.same("the least", mail.speed(0, 0), 0);
        Check.same("the most", mail.speed(1, 0), 20);
        Check.same("of each its own", mail.speed(2, 0), 7);
    }

    /** How deep what lies still at a row (of 40) is in year 1, the snow being as told (heat of year 0: 8). */
    private static int deepAt(int row, String snow) {
        GlacierMail mail = Check.told("person 0 " + row + ";person 1 0" + snow);
        mail.post(0, 1);
        return mail.deep(0, 1);
    }

    private static void snow() {
        Check.same("just above", deepAt(19, ";snow 20 fall 3"), 3);
        Check.same("at it", deepAt(20, ";snow 20 fall 3"), 0);
        Check.same("at the top", deepAt(0, ";snow 20 fall 3"), 3);
        Check.same("no row is above row 0", deepAt(0, ";snow 0 fall 3"), 0);
        Check.same("row 0 alone", deepAt(0, ";snow 1 fall 3"), 3);
        Check.same("row 1 no more", deepAt(1, ";snow 1 fall 3"), 0);
        Check.same("nearly all", deepAt(38, ";snow 39 fall 3"), 3);
        Check.same("but the last", deepAt(39, ";snow 39 fall 3"), 0);
    }

    private static void snowAtFirst() {
        Check.same("SNOW", new GlacierMail().count(10), 10);
        Check.same("just above", deepAt(9, ""), 2);
        Check.same("at it", deepAt(10, ""), 0);
    }

    private static void fall() {
        Check.same("at first", new GlacierMail().count(11), 2);
        Check.same("deep by it", deepAt(0, ""), 2);
        Texts.bounds("snow 5 fall ", "", 0, 9);
        Check.same("the least", deepAt(0, ";snow 5 fall 0"), 0);
        Check.same("the most", deepAt(0, ";snow 5 fall 9"), 9);
    }

    private static void stripe() {
        Texts.bounds("stripe ", "", 0, 3);
        Texts.bounds("lanes 1;stripe ", "", 0, 1);
        Texts.bounds("lanes 6;stripe ", "", 0, 6);
    }

    /** Which of four lanes are of the first stream: as digits, lane 0 the first. */
    private static String firstStream(String stripe) {
        GlacierMail mail = Check.told("lanes 4" + stripe);
        Check.law(mail, "fast 1 if first");
        StringBuilder lanes = new StringBuilder();
        for (int lane = 0; lane < 4; lane++) {
            lanes.append(mail.flow(lane, 0, 0));
        }
        return lanes.toString();
    }

    private static void streams() {
        Check.same("none is below 0", firstStream(";stripe 0"), "0000");
        Check.same("the stripe's own lane is of the second", firstStream(";stripe 1"), "1000");
        Check.same("up to the last", firstStream(";stripe 3"), "1110");
        Check.same("all", firstStream(";stripe 4"), "1111");
        GlacierMail rocks = Check.told("last 10;section 0 9 9 9;rock 0 9;rock 1 9;rock 2 9;stripe 1");
        Check.same("first", rocks.streams(1, false), 1);
        Check.same("all others", rocks.streams(1, true), 2);
    }

    private static void stripeAtFirst() {
        Check.same("STRIPE", new GlacierMail().count(12), 3);
        Check.same("all are of the first", firstStream(""), "1111");
    }

    private static void years() {
        GlacierMail mail = Check.told("rock 0 0");
        for (int year : new int[] {0, 299}) {
            Check.same("where in " + year, mail.where(0, year), 0);
            Check.same("flow in " + year, mail.flow(0, 0, year), 0);
            Check.same("outs in " + year, mail.outs(year), 0);
        }
        for (int year : new int[] {-1, 300, Integer.MIN_VALUE, Integer.MAX_VALUE}) {
            Check.argument("where in " + year, () -> mail.where(0, year));
            Check.argument("flow in " + year, () -> mail.flow(0, 0, year));
            Check.argument("outs in " + year, () -> mail.outs(year));
        }
    }

    private static void heatBounds() {
        for (int seed : new int[] {0, 1, 2, 77, 9999}) {
            GlacierMail mail = Check.told("seed " + seed);
            int least = 99;
            int most = -99;
            for (int year = 0; year < 300; year++) {
                int heat = mail.heat(year);
                least = Math.min(least, heat);
                most = Math.max(most, heat);
            }
            Check.same("the least of seed " + seed, least, 0);
            Check.same("the most of seed " + seed, most, 9);
        }
    }

    /** The whole numbers of the draws, kept from 0 to 2 to the 32 less 1 by division. */
    private static long[] numbers(int seed) {
        long[] numbers = new long[300];
        long number = seed;
        for (int year = 0; year < 300; year++) {
            number = (1103515245L * number + 12345L) % (1L << 32);
            numbers[year] = number;
        }
        return numbers;
    }

    private static void firstDraw() {
        // 1103515245 times 1 and 12345 is 1103527590, by 65536: 16838
        Check.same("heat 0 of seed 1", new GlacierMail().heat(0), 8);
        // 12345 by 65536: 0
        Check.same("heat 0 of seed 0", Check.told("seed 0").heat(0), 0);
        // 2207042835 by 65536: 33676; less 32768: 908
        Check.same("heat 0 of seed 2", Check.told("seed 2").heat(0), 8);
        long last = numbers(1)[299];
        Check.same("heat 299 is that of DRAW 299", new GlacierMail().heat(299), (int) (last / 65536 % 32768 % 10));
    }

    private static void seed() {
        Check.same("at first", new GlacierMail().count(13), 1);
        Texts.bounds("seed ", "", 0, 9999);
        Check.same("the least", Check.told("seed 0").count(13), 0);
        Check.same("the most", Check.told("seed 9999").count(13), 9999);
        GlacierMail one = Check.told("seed 1");
        GlacierMail first = new GlacierMail();
        boolean same = true;
        for (int year = 0; year < 300; year++) {
            same &= one.heat(year) == first.heat(year);
        }
        Check.same("heats of seed 1 are those at first", same, true);
    }

    private static void draws() {
        for (int seed : new int[] {0, 1, 4711, 9999}) {
            GlacierMail mail = Check.told("seed " + seed);
            long[] numbers = numbers(seed);
            for (int year = 0; year < 300; year++) {
                Check.same("seed " + seed + " in " + year, mail.heat(year), (int) (numbers[year] / 65536 % 32768 % 10));
            }
        }
    }

    private static void bitsOfADraw() {
        GlacierMail mail = new GlacierMail();
        long[] numbers = numbers(1);
        int withBit31 = 0;
        int withBit15 = 0;
        for (int year = 0; year < 300; year++) {
            long number = numbers[year];
            int heat = mail.heat(year);
            // by bit 31, too, or by bit 15, the heat were another one
            withBit31 += number / 65536 % 10 != heat ? 1 : 0;
            withBit15 += number / 32768 % 32768 % 10 != heat ? 1 : 0;
        }
        Check.same("years in which bit 31 would tell", withBit31 > 100, true);
        Check.same("years in which bit 15 would tell", withBit15 > 100, true);
    }

    private static void now() {
        GlacierMail mail = Check.told("rock 0 0");
        Check.same("NOW", mail.count(9), 0);
        Check.same("thrown in NOW", mail.letter(0, 3), 0);
    }

    private static void floods() {
        GlacierMail mail = Check.told(Texts.times(8, "flood 1 1 1"));
        Check.same("eight", mail.count(5), 8);
        Check.wrongValley(mail, "seed 1; flood 1 1 1", 8);
        Check.same("still eight", mail.count(5), 8);
        Texts.wrong(Texts.times(9, "flood 1 1 1"), 8 * 12);
        Check.valley(mail, "rock 0 1");
        Check.same("each of the eight counts", mail.moved(0), 8);
    }

    private static void flood() {
        Texts.bounds("flood 0 0 ", "", 1, 20);
        GlacierMail mail = Check.told("flood 3 5 20;flood 3 1 1;rock 0 4;rock 0 5;rock 0 6;rock 0 0");
        Check.same("above", mail.moved(0), 1);
        Check.same("at the row", mail.moved(1), 21);
        Check.same("behind", mail.moved(2), 21);
        Check.same("above both", mail.moved(3), 0);
        Check.same("ahead of its year", mail.where(1, 3), 5);
        Check.same("by its year", mail.where(1, 4), 26);
        Check.same("and no more", mail.where(1, 299), 26);
    }

    private static void people() {
        GlacierMail mail = Check.told(Texts.times(7, "person 0 0") + ";person 2 39");
        Check.same("eight", mail.count(3), 8);
        Check.same("the last", mail.person(7, 1), 39);
        Check.same("the first", mail.person(0, 1), 0);
        Check.index("person 8", () -> mail.person(8, 0));
        Check.wrongValley(mail, "person 1 1", 0);
        Texts.wrong(Texts.times(9, "person 0 0"), 8 * 11);
    }

    private static void hut() {
        Texts.bounds("person 0 ", "", 0, 39);
        Texts.bounds("last 10;person 0 ", "", 0, 9);
        Texts.bounds("last 99;person 0 ", " watch 0", 0, 98);
        Texts.bounds("person ", " 0", 0, 2);
        Texts.bounds("lanes 1;person ", " 0", 0, 0);
    }

    private static void watches() {
        Texts.bounds("person 0 0 watch ", "", 0, 2);
        Texts.bounds("lanes 6;person 0 0 watch ", "", 0, 5);
        GlacierMail mail = Check.told("person 0 0;person 0 0 watch 0;person 0 0 watch 2");
        Check.same("none", mail.person(0, 2), -1);
        Check.same("the first lane", mail.person(1, 2), 0);
        Check.same("the last lane", mail.person(2, 2), 2);
    }

    private static void letters() {
        GlacierMail mail = Texts.told("person 0 0;person 1 1", Texts.times(11, "rock 0 5"), Texts.times(11, "rock 0 6"));
        Check.same("letter 22", mail.post(0, 1), 22);
        Check.same("letter 23", mail.post(1, 0), 23);
        Check.same("24", mail.count(4), 24);
        Check.same("the first", mail.letter(0, 4), 5);
        Check.same("the last", mail.letter(23, 4), 1);
        Check.index("letter 24", () -> mail.letter(24, 0));
        Check.index("letter -1", () -> mail.letter(-1, 0));
        Check.unsupported("one more by post", () -> mail.post(0, 1));
        Check.wrongValley(mail, "rock 0 0", 0);
        Check.same("still 24", mail.count(4), 24);
    }

    private static void letter() {
        GlacierMail mail = Check.told("snow 39 fall 9;person 0 0;person 2 7;person 1 1");
        mail.years(4);
        mail.post(1, 2);
        int[] due = {1, 2, 2, 4, 7};
        for (int what = 0; what < due.length; what++) {
            Check.same("what " + what, mail.letter(0, what), due[what]);
        }
        Check.same("0 deep when thrown in", mail.deep(0, 4), 0);
        Check.same("deep a year later", mail.deep(0, 5), 9);
    }

    private static void rock() {
        GlacierMail mail = Check.told("snow 39 fall 9;rock 2 7");
        Check.same("a letter", mail.count(4), 1);
        Check.same("from nobody", mail.letter(0, 0), -1);
        Check.same("to nobody", mail.letter(0, 1), -1);
        for (int year : new int[] {0, 1, 2, 299}) {
            Check.same("on top in " + year, mail.deep(0, year), 0);
        }
    }

    private static void opened() {
        GlacierMail mail = Check.told("last 10;section 0 9 9 9;person 0 5;person 1 1 watch 0");
        mail.years(2);
        mail.post(0, 1);
        Check.same("by none", mail.letter(0, 5), -1);
        Check.same("in none", mail.letter(0, 6), -1);
        mail.years(3);
        Check.same("by whom", mail.letter(0, 5), 1);
        Check.same("in which year", mail.letter(0, 6), 3);
    }

    private static void twelveTexts() {
        GlacierMail mail = new GlacierMail();
        Check.same("none", mail.count(7), 0);
        for (int i = 1; i <= 11; i++) {
            Check.same("text " + i, Check.valley(mail, i == 3 ? "person 0 3" : i == 7 ? "person 0 7" : ""), i);
        }
        Check.wrongValley(mail, "x", 0);
        Check.same("a wrong text is none", mail.count(7), 11);
        Check.same("text 12", Check.valley(mail, "seed 12"), 12);
        Check.unsupported("text 13", () -> Check.valley(mail, "seed 13"));
        Check.same("twelve", mail.count(7), 12);
        Check.same("nothing of the 13th", mail.count(13), 12);
        Check.same("behind another", mail.person(0, 1) * 10 + mail.person(1, 1), 37);
        Check.law(mail, "fast 1");
        Check.same("a law is none of these", mail.count(8), 1);
    }

    private static void fourteenLines() {
        Texts.right("seed 1");
        Texts.right(Texts.times(14, "seed 1"));
        Texts.wrong(Texts.times(15, "seed 1"), 14 * 7);
        Texts.wrong(Texts.times(14, "seed 1") + " ;  seed 1", 14 * 7 + 3);
        Texts.right(Check.told(Texts.times(14, "seed 1")), Texts.times(14, "seed 1"));
    }

    private static void lines() {
        for (String line : LINES) {
            String[] words = line.split(" ");
            Texts.right(line);
            Texts.right(line + ";seed 1");
            Texts.right("seed 1;" + line);
            Texts.wrong(line + " 9", line.length() + 1);
            Texts.wrong(line + " watch watch", line.equals("person 0 1") ? line.length() + 7 : line.length() + 1);
            for (int i = 0; i < words.length; i++) {
                String head = String.join(" ", Arrays.copyOf(words, i));
                int begin = i == 0 ? 0 : head.length() + 1;
                String tail = line.substring(begin + words[i].length());
                Texts.wrong(line.substring(0, begin) + "?" + tail, begin);
                boolean number = Character.isDigit(words[i].charAt(0));
                Texts.wrong(line.substring(0, begin) + (number ? "seed" : "5") + tail, begin);
                if (i > 0 && !head.equals("person 0 1")) {
                    Texts.wrong(head, head.length());
                    Texts.wrong(head + ";seed 1", head.length());
                }
            }
        }
        // the only other word that may stand behind a hut
        Texts.wrong("person 0 1 fall 2", 11);
        Texts.wrong("snow 5 watch 1", 7);
    }

    private static void justAsManySpeeds() {
        for (int lanes = 1; lanes <= 6; lanes++) {
            String head = "lanes " + lanes + ";section 0";
            Texts.right(head + " 1".repeat(lanes));
            Texts.wrong(head + " 1".repeat(lanes - 1), head.length() + 2 * lanes - 2);
            Texts.wrong(head + " 1".repeat(lanes - 1) + ";seed 1", head.length() + 2 * lanes - 2);
            Texts.wrong(head + " 1".repeat(lanes + 1), head.length() + 2 * lanes + 1);
        }
    }

    private static void onlyWhileThereIsNone() {
        for (String kind : KINDS) {
            for (String line : new String[] {"lanes 3", "last 40", "lanes 0", "last"}) {
                Texts.wrong(kind + "; " + line, kind.length() + 2);
                Check.wrongValley(Check.told(kind), line, 0);
                Check.wrongValley(Check.told("lanes 3;last 40;" + kind), "seed 1;" + line, 7);
            }
            for (String other : KINDS) {
                if (!other.equals(kind)) {
                    Check.wrongValley(Check.told(kind + ";" + other), "last 40", 0);
                }
            }
        }
        for (String line : new String[] {"lanes 3", "last 40"}) {
            GlacierMail mail = Check.told("lanes 2;last 20;snow 3 fall 3;stripe 1;seed 3");
            Check.law(mail, "fast 1");
            mail.years(1);
            Texts.right(mail, line);
            Check.wrongValley(mail, "rock 0 0;x", 9);
            Texts.right(mail, line);
            GlacierMail back = new GlacierMail();
            back.image();
            Check.valley(back, "table 1 1 1");
            back.back();
            Texts.right(back, line);
        }
    }

    private static void again() {
        Check.same("STRIPE by more lanes", Check.told("stripe 1;lanes 5").count(12), 5);
        Check.same("STRIPE by as many lanes", Check.told("stripe 0;lanes 3").count(12), 3);
        Check.same("STRIPE by last", Check.told("stripe 1;last 20").count(12), 1);
        Check.same("SNOW by more rows", Check.told("snow 30 fall 5;last 99").count(10), 10);
        Check.same("SNOW by as many rows", Check.told("snow 3 fall 5;last 40").count(10), 10);
        Check.same("SNOW by the fewest rows", Check.told("snow 3 fall 5;last 10").count(10), 10);
        Check.same("FALL by last", Check.told("snow 30 fall 5;last 99").count(11), 5);
        Check.same("SNOW by lanes", Check.told("snow 30 fall 5;lanes 2").count(10), 30);
    }

    private static void rowsOfTexts() {
        for (int last : new int[] {10, 40, 99}) {
            String head = "last " + last + ";";
            Texts.bounds(head + "snow ", " fall 1", 0, last - 1);
            Texts.bounds(head + "flood 0 ", " 1", 0, last - 1);
            Texts.bounds(head + "person 0 ", " watch 1", 0, last - 1);
            Texts.bounds(head + "rock 0 ", "", 0, last - 1);
        }
    }

    private static void rowsOfSections() {
        for (int last : new int[] {10, 40, 99}) {
            String head = "last " + last + ";section ";
            Texts.bounds(head, " 1 1 1", 0, 0);
            Texts.bounds(head + "0 1 1 1;section ", " 1 1 1", 1, last - 1);
            Texts.bounds(head + "0 1 1 1;section 7 1 1 1;section ", " 1 1 1", 8, last - 1);
            // behind a section at the last row there is no room for one more
            String full = head + "0 1 1 1;section " + (last - 1) + " 1 1 1;section ";
            Texts.wrong(full + (last - 1) + " 1 1 1", full.length());
            Texts.wrong(full + last + " 1 1 1", full.length());
        }
    }

    private static void yearsOfFloods() {
        Texts.bounds("flood ", " 0 1", 0, 299);
        for (int now : new int[] {1, 50, 298, 299}) {
            for (int year : List.of(now - 1, now, 299, 300)) {
                GlacierMail mail = new GlacierMail();
                for (int left = now; left > 0; left -= 50) {
                    mail.years(Math.min(left, 50));
                }
                if (year < now || year > 299) {
                    Check.wrongValley(mail, "flood " + year + " 0 1", 6);
                } else {
                    Texts.right(mail, "flood " + year + " 0 1");
                }
            }
        }
    }

    private static void nOfSnow() {
        Texts.bounds("snow 0 fall ", "", 0, 9);
        Texts.wrong("snow 0 fall 20", 12);
        Check.same("the most", Check.told("snow 0 fall 9").count(11), 9);
        Check.same("the least", Check.told("snow 0 fall 0").count(11), 0);
    }

    private static void rockNow() {
        GlacierMail mail = Check.told("section 0 1 1 1;rock 0 0");
        mail.years(5);
        Check.valley(mail, "rock 0 0");
        Check.same("that of year 0", mail.letter(0, 3), 0);
        Check.same("NOW", mail.letter(1, 3), 5);
        Check.same("ahead of it", mail.where(1, 4), -1);
        Check.same("in it", mail.where(1, 5), 0);
    }

    private static void table() {
        Texts.bounds("table ", " 1 1", 0, 20);
        Texts.bounds("table 1 1 ", "", 0, 20);
        for (int lanes = 1; lanes <= 6; lanes++) {
            String head = "lanes " + lanes + ";table";
            Texts.right(head + " 1".repeat(lanes));
            Texts.wrong(head + " 1".repeat(lanes - 1), head.length() + 2 * lanes - 2);
            Texts.wrong(head + " 1".repeat(lanes + 1), head.length() + 2 * lanes + 1);
        }
    }

    /** A line whose numbers have as many digits as told, by noughts ahead, from number i on just one of them. */
    private static String padded(String line, int which, int digits) {
        String[] words = line.split(" ");
        int number = 0;
        for (int i = 0; i < words.length; i++) {
            if (Character.isDigit(words[i].charAt(0))) {
                if (number == which || which < 0) {
                    words[i] = "0".repeat(Math.max(0, digits - words[i].length())) + words[i];
                }
                number++;
            }
        }
        return String.join(" ", words);
    }

    private static void digits() {
        for (String line : LINES) {
            Texts.right(padded(line, -1, 1));
            Texts.right(padded(line, -1, 4));
            for (int which = 0; which < line.replaceAll("[^0-9 ]", "").trim().split(" +").length; which++) {
                String text = padded(line, which, 5);
                Texts.wrong(text, text.indexOf("000"));
            }
        }
        Texts.wrong("seed 10000", 5);
        Texts.wrong("seed 99999999999999999999", 5);
        Texts.wrong("seed 4294967297", 5);
        Check.same("all four digits count", Check.told("seed 1234").count(13), 1234);
        Check.same("noughts ahead", Check.told("seed 0012").count(13), 12);
    }
}
