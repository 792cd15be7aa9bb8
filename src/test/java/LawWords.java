import java.util.Arrays;

/** "Terms", from THE LAW on: its grammar, FLOW and OPEN, and which byte of a text is wrong. */
final class LawWords {
    private static final String[] LINES = {"fast 1 if side", "slow 2 if 1 < 2", "open if not first", "fast 20", "open",
        "slow 3 if ( side or first ) and row + 2 > 1"};
    private static final String[] PARTS = {"lane", "row", "year", "heat", "speed", "person", "age", "deep"};

    private LawWords() {
    }

    static void all() {
        Doc.says(Doc.TERMS, "THE LAW (a text, in place of the one before):", LawWords::inPlace);
        Doc.says(Doc.TERMS, "LINE { ; LINE }, at most 12:", LawWords::twelveLines);
        Doc.says(Doc.TERMS, "fast N [ if C ] | slow N [ if C ] | open [ if C ].", LawWords::lines);
        Doc.says(Doc.TERMS, "C: ALL { or ALL }; ALL: ATOM { and ATOM };", LawWords::orAndAnd);
        Doc.says(Doc.TERMS, "ATOM: not ATOM | ( C ) | side | first | SUM < SUM | SUM > SUM.", LawWords::atoms);
        Doc.says(Doc.TERMS, "SUM: PART { + PART };", LawWords::sums);
        Doc.says(Doc.TERMS, "PART: NUMBER | lane | row | year | heat | speed | person | age | deep.", LawWords::parts);
        Doc.says(Doc.TERMS, "All numbers are of 1 to 3 digits here", LawWords::digits);
        Doc.says(Doc.TERMS, "(N 0 to 20).", LawWords::n);
        flows();
        opens();
        bytes();
    }

    private static void flows() {
        Doc.says(Doc.TERMS, "FLOW at a LANE and a ROW in a YEAR: SPEED there (0 without SECTIONS),", LawWords::speedThere);
        Doc.says(Doc.TERMS, "the sum of N of all fast LINES that hold more, that of slow LINES less,", LawWords::moreAndLess);
        Doc.says(Doc.TERMS, "0 to 30 (what is less, or more, is 0, or 30):", LawWords::flowBounds);
        Doc.says(Doc.TERMS, "side: LANE 0 or L less 1;", LawWords::side);
        Doc.says(Doc.TERMS, "first: of the first stream;", LawWords::first);
        Doc.says(Doc.TERMS, "person, age, deep: 0.", LawWords::noughts);
    }

    private static void opens() {
        Doc.says(Doc.TERMS, "OPEN: of a PERSON and a LETTER that is out: some open LINE holds:", LawWords::someLine);
        Doc.says(Doc.TERMS, "lane: its LANE (side, first: of that),", LawWords::laneOfALetter);
        Doc.says(Doc.TERMS, "row: LAST,", LawWords::rowOfALetter);
        Doc.says(Doc.TERMS, "year, heat: of NOW,", LawWords::yearOfALetter);
        Doc.says(Doc.TERMS, "speed 0,", LawWords::speedOfALetter);
        Doc.says(Doc.TERMS, "person: the PERSON,", LawWords::personWhoMay);
        Doc.says(Doc.TERMS, "age: NOW less the YEAR in which it was thrown in,", LawWords::ageOfALetter);
        Doc.says(Doc.TERMS, "deep: how deep it was when OUT.", LawWords::deepOfALetter);
    }

    private static void bytes() {
        Doc.says(Doc.TERMS, "Words are as long as a to z go on;", LawWords::words);
        Doc.says(Doc.TERMS, "between all there may be blanks (32), also ahead and behind.", LawWords::blanks);
        Doc.says(Doc.TERMS, "A text that is empty, or blanks alone, has no LINE.", LawWords::empty);
        Doc.says(Doc.TERMS, "( and not within one another at most 6 deep.", LawWords::sixDeep);
        Doc.says(Doc.TERMS, "The first wrong byte: the begin of the first thing that cannot stand there", LawWords::firstWrong);
        Doc.says(Doc.TERMS, "(a number of more digits, or out of its bounds;", LawWords::wrongNumber);
        Doc.says(Doc.TERMS, "a word that is none;", LawWords::wrongWord);
        Doc.says(Doc.TERMS, "the ( or not that is a 7th one deep;", LawWords::seventhDeep);
        Doc.says(Doc.TERMS, "of a LINE too many, of a SECTION, FLOOD, PERSON, LETTER, TABLE too many, the first word),",
                LawWords::tooMany);
        Doc.says(Doc.TERMS, "or the text's length, if more must come.", LawWords::moreMustCome);
        Doc.says(Doc.TERMS, "Of a wrong text nothing stays.", LawWords::nothingStays);
    }

    private static void inPlace() {
        GlacierMail mail = new GlacierMail();
        Check.same("ahead of any", mail.count(8), -1);
        Check.law(mail, "fast 3;fast 4");
        Check.same("one", mail.flow(0, 0, 0), 7);
        Check.law(mail, "fast 5");
        Check.same("another", mail.flow(0, 0, 0), 5);
        Check.same("its lines alone", mail.count(8), 1);
        Check.wrongLaw(mail, "fast 6;x", 7);
        Check.same("a wrong one is in no one's place", mail.flow(0, 0, 0), 5);
        Check.same("nor its lines", mail.count(8), 1);
        Check.law(mail, "");
        Check.same("none of the one before", mail.flow(0, 0, 0), 0);
        Check.same("a law without lines is one", mail.count(8), 0);
        String full = "fast1if 0<1" + "and 0<1".repeat(54);
        for (int i = 0; i < 9; i++) {
            Check.law(mail, full);
            Check.law(mail, full + "and 1<0");
        }
        Check.same("as many laws as one likes, however long", mail.flow(0, 0, 0), 0);
        Check.law(mail, full);
        Check.same("the latest", mail.flow(0, 0, 0), 1);
    }

    private static void twelveLines() {
        Texts.rightLaw("open", 1);
        Texts.rightLaw(Texts.times(11, "fast 1"), 11);
        Texts.rightLaw(Texts.times(12, "fast 1"), 12);
        Check.same("each of the twelve counts", Texts.flowBy(Texts.times(12, "fast 1"), 0), 12);
        Texts.wrongLaw(Texts.times(13, "fast 1"), 12 * 7);
        Texts.wrongLaw(Texts.times(12, "open") + ";   open", 12 * 5 + 3);
    }

    private static void lines() {
        for (String line : LINES) {
            Texts.rightLaw(line, 1);
            Texts.rightLaw(line + ";open", 2);
            Texts.rightLaw("slow 1;" + line, 2);
            Texts.wrongLaw(line + " 9", line.length() + 1);
            Texts.wrongLaw(line + " fast 1", line.length() + 1);
            Texts.wrongLaw(line + ",open", line.length());
            String[] words = line.split(" ");
            for (int i = 0; i < words.length; i++) {
                int begin = i == 0 ? 0 : String.join(" ", Arrays.copyOf(words, i)).length() + 1;
                Texts.wrongLaw(line.substring(0, begin) + "?" + line.substring(begin + words[i].length()), begin);
            }
        }
        Texts.wrongLaw("fast", 4);
        Texts.wrongLaw("fast if side", 5);
        Texts.wrongLaw("slow;open", 4);
        Texts.wrongLaw("open 3", 5);
        Texts.wrongLaw("fast 1 side", 7);
        Texts.wrongLaw("fast 1 if side if side", 15);
        Texts.wrongLaw("open if", 7);
    }

    private static void orAndAnd() {
        String yes = "0<1";
        String no = "1<0";
        Check.same("one ALL", Texts.holds(yes), true);
        Check.same("or: one is enough", Texts.holds(no + " or " + yes), true);
        Check.same("or: none", Texts.holds(no + " or " + no), false);
        Check.same("and: all", Texts.holds(yes + " and " + yes), true);
        Check.same("and: not all", Texts.holds(yes + " and " + no), false);
        Check.same("and ahead of or", Texts.holds(yes + " or " + yes + " and " + no), true);
        Check.same("and ahead of or, again", Texts.holds(no + " and " + yes + " or " + yes), true);
        Check.same("two ALL of two", Texts.holds(no + " and " + yes + " or " + yes + " and " + no), false);
        Check.same("side or first, and", Texts.holds("side and " + yes + " or first and " + yes), true);
        Check.same("first and side", Texts.holds("first and side"), false);
        Check.same("not side and first", Texts.holds("not side and first"), true);
        Check.same("side or not, and first", Texts.holds("side and first or not first"), false);
        Check.same("many ALL", Texts.holds(no + (" or " + no).repeat(20) + " or " + yes), true);
        Check.same("many ATOMS", Texts.holds(yes + (" and " + yes).repeat(20) + " and " + no), false);
        Texts.wrongLaw("open if " + yes + " or", 14);
        Texts.wrongLaw("open if " + yes + " and or " + yes, 16);
        Texts.wrongLaw("open if or " + yes, 8);
    }

    private static void atoms() {
        Check.same("less", Texts.holds("1 < 2"), true);
        Check.same("not less, but even", Texts.holds("2 < 2"), false);
        Check.same("more", Texts.holds("2 > 1"), true);
        Check.same("not more, but even", Texts.holds("2 > 2"), false);
        Check.same("not of one ATOM alone", Texts.holds("not 1<2 or 1<2"), true);
        Check.same("not of one ATOM alone, by and", Texts.holds("not 2<1 and 2<1"), false);
        Check.same("not not", Texts.holds("not not 1<2"), true);
        Check.same("not of what is within ( )", Texts.holds("not ( 1<2 or 1<2 )"), false);
        Check.same("( C )", Texts.holds("(1<2 or 1<2) and 2<1"), false);
        Check.same("C of one ALL alone", Texts.holds("1<2 and (2<1)"), false);
        Check.same("C of one ALL alone that holds", Texts.holds("1<2 and (1<2)"), true);
        Check.same("C of one ALL alone, of side", Texts.holds("first and (side)"), false);
        Check.same("( ) within ( )", Texts.holds("1<2 and (1<2 and (2<1 or 2<1))"), false);
        Check.same("first at lane 1 of 3", Texts.holds("first"), true);
        Check.same("side at lane 1 of 3", Texts.holds("side"), false);
        Texts.wrongLaw("open if 1", 9);
        Texts.wrongLaw("open if 1 < 2 < 3", 14);
        Texts.wrongLaw("open if 1 = 1", 10);
        Texts.wrongLaw("open if (1) < 2", 10);
        Texts.wrongLaw("open if ()", 9);
        Texts.wrongLaw("open if (side", 13);
        Texts.wrongLaw("open if side)", 12);
        Texts.wrongLaw("open if (side first)", 14);
    }

    private static void sums() {
        Check.same("one part", Texts.holds("3 > 2"), true);
        Check.same("1 + 1 is not more than 2", Texts.holds("1 + 1 > 2"), false);
        Check.same("1 + 2 is", Texts.holds("1+2 > 2"), true);
        Check.same("at both sides", Texts.holds("1 + 1 + 1 < 2 + 2"), true);
        Check.same("many", Texts.holds("1" + "+1".repeat(99) + " > 99"), true);
        Check.same("and not one more", Texts.holds("1" + "+1".repeat(99) + " > 100"), false);
        Texts.wrongLaw("open if + 1 > 0", 8);
        Texts.wrongLaw("open if 1 + > 0", 12);
        Texts.wrongLaw("open if 1 + + 1 > 0", 12);
        Texts.wrongLaw("open if 1 + side > 0", 12);
        Texts.wrongLaw("open if 1 < 2 +", 15);
        Texts.wrongLaw("open if 1 1 < 2", 10);
        Texts.wrongLaw("open if 2 - 1 < 2", 10);
    }

    private static void parts() {
        // at lane 2, row 5 in year 6 (heat 0), 7 (heat 9), SPEED 4
        GlacierMail mail = Check.told("lanes 4;section 0 1 1 4 1;seed 1");
        int[] due = {2, 5, 7, 9, 4, 0, 0, 0};
        for (int i = 0; i < PARTS.length; i++) {
            Texts.rightLaw("open if " + PARTS[i] + " < 1", 1);
            Check.law(mail, "fast 1 if " + PARTS[i] + " + 1 > " + due[i]);
            Check.same(PARTS[i] + " is at least " + due[i], mail.flow(2, 5, 7), 5);
            Check.law(mail, "fast 1 if " + PARTS[i] + " > " + due[i]);
            Check.same(PARTS[i] + " is no more", mail.flow(2, 5, 7), 4);
            Check.law(mail, "fast 1 if 1 + " + PARTS[i] + " + 1 > " + (due[i] + 1));
            Check.same("and 1 ahead, and 1 behind", mail.flow(2, 5, 7), 5);
            Texts.wrongLaw("open if " + PARTS[i] + "s < 1", 8);
        }
        Texts.rightLaw("open if 0 < 999", 1);
        Texts.wrongLaw("open if snow < 1", 8);
    }

    private static void digits() {
        Texts.rightLaw("fast 1 if 9 < 99", 1);
        Texts.rightLaw("fast 001 if 009 < 999", 1);
        Texts.wrongLaw("fast 0001", 5);
        Texts.wrongLaw("fast 1 if 0009 < 99", 10);
        Texts.wrongLaw("fast 1 if 9 < 1000", 14);
        Texts.wrongLaw("fast 1 if 9 + 1000 < 1", 14);
        Texts.wrongLaw("fast 1 if 9 < 99999999999", 14);
        Check.same("999 is more than 998", Texts.holds("999 > 998"), true);
        Check.same("but no more than 999", Texts.holds("999 > 999"), false);
        Check.same("099 is 99", Texts.holds("099 > 98 and 099 < 100"), true);
    }

    private static void n() {
        for (String kind : new String[] {"fast ", "slow "}) {
            Texts.rightLaw(kind + "0", 1);
            Texts.rightLaw(kind + "20", 1);
            Texts.rightLaw(kind + "020", 1);
            Texts.wrongLaw(kind + "21", 5);
            Texts.wrongLaw(kind + "999 if side", 5);
        }
        Check.same("the least", Texts.flowBy("fast 0", 0), 0);
        Check.same("the most", Texts.flowBy("fast 20", 0), 20);
    }

    private static void speedThere() {
        Check.same("without sections", new GlacierMail().flow(2, 39, 299), 0);
        Check.same("without sections, by a law", Texts.flowBy("fast 3", 2), 3);
        GlacierMail mail = Check.told("section 0 1 2 3;section 10 4 5 20");
        Check.same("without a law", mail.flow(1, 9, 0), 2);
        Check.same("at another row", mail.flow(1, 10, 0), 5);
        Check.same("at another lane", mail.flow(2, 10, 299), 20);
        Check.law(mail, "");
        Check.same("by a law without lines", mail.flow(2, 10, 0), 20);
        Check.law(mail, "fast 1 if speed > 4 and speed < 6");
        Check.same("the speed there", mail.flow(1, 10, 0), 6);
        Check.same("not that of another row", mail.flow(1, 9, 0), 2);
        // each place and year by itself, whichever was asked first
        GlacierMail each = Check.told("lanes 6");
        Check.law(each, "fast 1 if lane > row;fast 2 if row > year;fast 4 if year > lane");
        for (int i = 0; i < 6 * 6 * 6; i++) {
            int lane = i % 6;
            int row = i / 6 % 6;
            int year = i / 36;
            int due = (lane > row ? 1 : 0) + (row > year ? 2 : 0) + (year > lane ? 4 : 0);
            Check.same("flow " + lane + " " + row + " " + year, each.flow(lane, row, year), due);
        }
    }

    private static void moreAndLess() {
        GlacierMail mail = Check.told("section 0 10 10 10");
        Check.law(mail, "fast 1;fast 2;slow 4 if 0<1;fast 8 if 1<0;slow 5 if 1<0;open");
        Check.same("all that hold, no other", mail.flow(0, 0, 0), 9);
        Check.law(mail, "open if 0<1;fast 0;slow 0");
        Check.same("open and noughts change nothing", mail.flow(0, 0, 0), 10);
        Check.law(mail, "slow 20;fast 20");
        Check.same("the sums, not one by one: 10 less 20 is not 0 first", mail.flow(0, 0, 0), 10);
        Check.law(mail, Texts.times(6, "fast 20") + ";" + Texts.times(6, "slow 20"));
        Check.same("nor 30 first", mail.flow(0, 0, 0), 10);
    }

    private static void flowBounds() {
        GlacierMail mail = Check.told("section 0 0 10 20");
        Check.law(mail, "fast 10");
        Check.same("just 30", mail.flow(2, 0, 0), 30);
        Check.law(mail, "fast 11");
        Check.same("31 is 30", mail.flow(2, 0, 0), 30);
        Check.law(mail, Texts.times(12, "fast 20"));
        Check.same("260 is 30", mail.flow(2, 0, 0), 30);
        Check.same("240 is 30", mail.flow(0, 0, 0), 30);
        Check.law(mail, "slow 10");
        Check.same("just 0", mail.flow(1, 0, 0), 0);
        Check.law(mail, "slow 11");
        Check.same("1 less than 0 is 0", mail.flow(1, 0, 0), 0);
        Check.law(mail, Texts.times(12, "slow 20"));
        Check.same("far less is 0", mail.flow(2, 0, 0), 0);
        Check.law(mail, "fast 9");
        Check.same("29 is 29", mail.flow(2, 0, 0), 29);
        Check.law(mail, "slow 9");
        Check.same("1 is 1", mail.flow(1, 0, 0), 1);
    }

    /** Which lanes a condition holds at, as digits, lane 0 the first. */
    private static String lanes(String valley, String condition) {
        GlacierMail mail = Check.told(valley);
        Check.law(mail, "fast 1 if " + condition);
        StringBuilder lanes = new StringBuilder();
        for (int lane = 0; lane < mail.count(0); lane++) {
            lanes.append(mail.flow(lane, 0, 0));
        }
        return lanes.toString();
    }

    private static void side() {
        Check.same("one lane", lanes("lanes 1", "side"), "1");
        Check.same("two lanes", lanes("lanes 2", "side"), "11");
        Check.same("three lanes", lanes("lanes 3", "side"), "101");
        Check.same("six lanes", lanes("lanes 6", "side"), "100001");
    }

    private static void first() {
        Check.same("none", lanes("lanes 6;stripe 0", "first"), "000000");
        Check.same("one", lanes("lanes 6;stripe 1", "first"), "100000");
        Check.same("all but one", lanes("lanes 6;stripe 5", "first"), "111110");
        Check.same("all", lanes("lanes 6;stripe 6", "first"), "111111");
    }

    private static void noughts() {
        GlacierMail mail = Check.told("person 0 0;person 2 0;snow 39 fall 9");
        mail.years(9);
        mail.post(1, 0);
        Check.law(mail, "fast 1 if person > 0;fast 2 if age > 0;fast 4 if deep > 0");
        Check.same("no more than 0", mail.flow(2, 0, 20), 0);
        Check.same("nor for a letter", mail.where(0, 299), 0);
        Check.law(mail, "fast 1 if person < 1;fast 2 if age < 1;fast 4 if deep < 1");
        Check.same("just 0", mail.flow(2, 0, 20), 7);
    }

    /**
     * Whether person 2, who watches lane 1 of 4 (of the first stream), opens a letter to person 1, who does not: thrown in
     * in year 3 at row 1 of 12 (5 a year), 9 deep in 4, 8 in 5 (heat of 4: 1), 1 when out in 6 (heat of 5: 7, of 6: 0).
     */
    private static boolean opensIf(String law) {
        GlacierMail mail = Check.told("lanes 4;last 12;section 0 5 5 5 5;stripe 2;snow 3 fall 9;"
                + "person 1 1;person 1 1;person 2 2 watch 1;person 3 3 watch 3");
        mail.years(3);
        Check.law(mail, law);
        mail.post(0, 1);
        mail.years(2);
        Check.same("not out ahead of year 6", mail.count(14), 0);
        mail.years(1);
        return mail.letter(0, 5) == 2;
    }

    private static void just(String part, int due) {
        Check.same(part + " less than", opensIf("open if " + part + " < " + (due + 1)), true);
        Check.same(part + " not less", opensIf("open if " + part + " < " + due), false);
        Check.same(part + " more than", due == 0 || opensIf("open if " + part + " > " + (due - 1)), true);
        Check.same(part + " not more", opensIf("open if " + part + " > " + due), false);
    }

    private static void someLine() {
        Check.same("no law's line", opensIf(""), false);
        Check.same("fast and slow open nothing", opensIf("fast 0;slow 0 if 0<1"), false);
        Check.same("one that always holds", opensIf("open"), true);
        Check.same("the only one holds not", opensIf("open if 1<0"), false);
        Check.same("the last holds", opensIf(Texts.times(11, "open if 1<0") + ";open"), true);
        Check.same("the first holds", opensIf("open;" + Texts.times(11, "open if 1<0")), true);
        Check.same("not by all", opensIf("open if 0<1;open if 1<0"), true);
        GlacierMail lawless = Check.told("last 10;section 0 9 9 9;person 0 5;person 1 5;person 2 5 watch 0");
        lawless.post(0, 1);
        Check.same("without a law", lawless.years(3), 0);
    }

    private static void laneOfALetter() {
        just("lane", 1);
        Check.same("side", opensIf("open if side"), false);
        Check.same("not side", opensIf("open if not side"), true);
        Check.same("first", opensIf("open if first"), true);
        Check.same("not first", opensIf("open if not first"), false);
    }

    private static void rowOfALetter() {
        just("row", 12);
    }

    private static void yearOfALetter() {
        just("year", 6);
        just("heat", 0);
        // out in 6, but opened in 7 (heat 9), if then it may be
        GlacierMail mail = Check.told("lanes 1;last 10;section 0 9;person 0 5;person 0 5;person 0 5 watch 0");
        Check.law(mail, "open if heat > 8 and heat < 10 and year > 6 and year < 8");
        mail.years(5);
        mail.post(0, 1);
        Check.same("NOW 6", mail.years(1), 0);
        Check.same("NOW 7", mail.years(1), 1);
    }

    private static void speedOfALetter() {
        just("speed", 0);
    }

    private static void personWhoMay() {
        just("person", 2);
    }

    private static void ageOfALetter() {
        just("age", 3);
    }

    private static void deepOfALetter() {
        just("deep", 1);
    }

    private static void words() {
        Texts.rightLaw("fast1if row<1and row>0or side", 1);
        Texts.wrongLaw("fast1if rowand<1", 8);
        Texts.wrongLaw("openif side", 0);
        Texts.wrongLaw("openz", 0);
        Texts.wrongLaw("zopen", 0);
        Texts.wrongLaw("opena", 0);
        Texts.wrong("seedz 1", 0);
        Texts.wrongLaw("open if notside", 8);
        Texts.wrongLaw("op en", 0);
        Texts.wrongLaw("openA", 4);
        Texts.wrongLaw("open`", 4);
        Texts.wrongLaw("open{", 4);
        Texts.wrongLaw("open" + (char) 225, 4);
        Texts.wrong("seed 1seed 2", 6);
        Texts.right("person0 0watch1;stripe1");
        // a word ends where the text ends, whatever the TAPE held behind it
        GlacierMail mail = new GlacierMail();
        Check.feedText(mail, "openopen;fast1;;;;;");
        mail.end(4);
        Check.same("cut within what was a longer word", Check.answer(mail::law), 1);
        Check.feedText(mail, "fast 12345");
        mail.end(6);
        Check.same("cut within what was a longer number", Check.answer(mail::law), 1);
        Check.same("a number ends there, too", mail.flow(0, 0, 0), 1);
    }

    private static void blanks() {
        Texts.rightLaw("fast1if(1+2<3+4and not(side))or first;open", 2);
        Texts.rightLaw("  fast  1  if  (  1  +  2  <  3  )  ;  open  ", 2);
        Texts.right("  snow  1  fall  2  ;  person  0  1  watch  2  ");
        Texts.right("snow1fall2;person0 1watch2");
        Texts.wrongLaw("fast 1 2", 7);
        for (char sign : new char[] {9, 10, 13, 0, 160, 31, 33}) {
            Texts.wrongLaw("open" + sign, 4);
            Texts.wrongLaw(sign + "open", 0);
            Texts.wrong("seed" + sign + "1", 4);
            Texts.wrong("seed 1" + sign, 6);
        }
    }

    private static void empty() {
        for (String text : new String[] {"", " ", " ".repeat(400)}) {
            Texts.rightLaw(text, 0);
            Texts.right(text);
        }
        Texts.wrongLaw(" ; ", 1);
        Texts.wrong(" ; ", 1);
    }

    private static void sixDeep() {
        Texts.rightLaw("open if " + "(".repeat(6) + "side" + ")".repeat(6), 1);
        Texts.wrongLaw("open if " + "(".repeat(7) + "side" + ")".repeat(7), 14);
        Texts.rightLaw("open if " + "not ".repeat(6) + "side", 1);
        Texts.wrongLaw("open if " + "not ".repeat(7) + "side", 32);
        Texts.rightLaw("open if " + "not(".repeat(3) + "side" + ")".repeat(3), 1);
        Texts.wrongLaw("open if " + "not(".repeat(3) + "not side" + ")".repeat(3), 20);
        // what has ended is not around what follows
        Texts.rightLaw("open if " + "((((((side)))))) and ((((((side)))))) or not not not not not not side", 1);
        Texts.rightLaw("open if (not not not not not side) and (((((side) or side) or side) and side))", 1);
        Check.same("six ( hold", Texts.holds("(((((( 0<1 ))))))"), true);
        Check.same("six not hold", Texts.holds("not not not not not not 0<1"), true);
        Check.same("five not hold not", Texts.holds("not not not not not 0<1"), false);
    }

    private static void firstWrong() {
        Texts.wrongLaw("fast 99 if x", 5);
        Texts.wrongLaw("fast 1 if x;fast 99", 10);
        Texts.wrongLaw("fast 1 ? if x", 7);
        Texts.wrongLaw("fast 1   x", 9);
        Texts.wrongLaw("x", 0);
        Texts.wrongLaw("  x", 2);
        Texts.wrongLaw("open;;open", 5);
        Texts.wrongLaw("open if 1 < side", 12);
        Texts.wrong("seed 1;snow 99 fall 99", 12);
        Texts.wrong("seed 1;person 0 99 watch 99", 16);
        Texts.wrong("seed 1 ; ; x", 9);
        Texts.wrong("seed : 1", 5);
    }

    private static void wrongNumber() {
        Texts.wrongLaw("fast 12345", 5);
        Texts.wrongLaw("fast   0012", 7);
        Texts.wrongLaw("fast 21", 5);
        Texts.wrongLaw("open if 1234 < 1", 8);
        Texts.wrong("lanes   7", 8);
        Texts.wrong("lanes 00007", 6);
        Texts.wrong("flood 0 40 1", 8);
        Texts.wrong("flood 0 0 21", 10);
        Texts.wrong("snow 1 fall 10", 12);
    }

    private static void wrongWord() {
        for (String word : new String[] {"lane", "laness", "seeds", "sectio", "opens", "fas", "z", "watch", "fall", "if"}) {
            Texts.wrong(" " + word + " 1", 1);
            Texts.wrongLaw(" " + word + " 1", 1);
        }
        Texts.wrong("fast 1", 0);
        Texts.wrongLaw("seed 1", 0);
        Texts.wrong("snow 1 falls 2", 7);
        Texts.wrong("person 0 0 watches 1", 11);
        Texts.wrongLaw("open iff side", 5);
        Texts.wrongLaw("open if sides", 8);
        Texts.wrongLaw("open if side andor first", 13);
    }

    private static void seventhDeep() {
        Texts.wrongLaw("open if ((((((  (side)))))))", 16);
        Texts.wrongLaw("open if (((((( not side))))))", 15);
        Texts.wrongLaw("open if not not not not not not ( side )", 32);
        // it is told even though what follows is wrong, too
        Texts.wrongLaw("open if (((((((?", 14);
        Texts.wrongLaw("open if ((((((", 14);
    }

    private static void tooMany() {
        Texts.wrong(Texts.times(14, "seed 1") + ";  seed 1", 14 * 7 + 2);
        Texts.wrongLaw(Texts.times(12, "open") + ";  open", 12 * 5 + 2);
        GlacierMail mail = Texts.told("section 0 1 1 1;section 1 1 1 1;section 2 1 1 1;section 3 1 1 1;section 4 1 1 1;"
                + "section 5 1 1 1;section 6 1 1 1;section 7 1 1 1", Texts.times(8, "flood 0 0 1"),
                Texts.times(8, "person 0 0"), Texts.times(12, "rock 0 0"), Texts.times(12, "rock 0 0"),
                Texts.times(6, "table 1 1 1"));
        for (String line : new String[] {"section 8 1 1 1", "flood 0 0 1", "person 0 0", "rock 0 0", "table 1 1 1"}) {
            Check.wrongValley(mail, line, 0);
            Check.wrongValley(mail, "seed 1;  " + line, 9);
            // the first word, though its numbers are wrong, or are not there
            Check.wrongValley(mail, "  " + line.replaceAll(" .*", "") + " 999", 2);
            Check.wrongValley(mail, line.replaceAll(" .*", ""), 0);
        }
        // each may be as many in a wrong text as in a right one
        GlacierMail fresh = Check.told(Texts.times(7, "person 0 0"));
        Check.wrongValley(fresh, "person 0 0;person 0 0", 11);
        Check.wrongValley(fresh, "person 0 0;x", 11);
        Texts.right(fresh, "person 0 0");
    }

    private static void moreMustCome() {
        for (String text : new String[] {"fast", "fast ", "fast 1 if", "fast 1;", "fast 1 ; ", "open if not", "open if (",
            "open if (side", "open if (side or", "open if side and", "open if 1", "open if 1 +", "open if 1 <",
            "open if 1 < 1 +"}) {
            Texts.wrongLaw(text, text.length());
            Texts.wrongLaw(text + "   ", text.length() + 3);
        }
        for (String text : new String[] {"lanes", "last", "section", "section 0 1 1", "snow", "snow 1", "snow 1 fall",
            "stripe", "seed", "seed 1;", "flood 1 1", "person", "person 0", "person 0 0 watch", "rock 0", "table 1 1"}) {
            Texts.wrong(text, text.length());
            Texts.wrong(text + "   ", text.length() + 3);
        }
        Texts.wrong(Texts.times(14, "seed 1") + ";", 14 * 7);
        Texts.wrongLaw(Texts.times(12, "open") + ";", 12 * 5);
        // the TAPE's length is the text's, also when it is full
        Texts.wrong("seed" + " ".repeat(396), 400);
    }

    private static void nothingStays() {
        String all = "section 0 1 1 1;snow 3 fall 3;stripe 1;seed 3;flood 1 1 1;person 1 1;rock 1 1;table 1 1 1";
        GlacierMail mail = Check.told("person 0 0;person 1 1");
        mail.post(0, 1);
        String before = Picture.of(mail);
        Check.wrongValley(mail, all + ";x", all.length() + 1);
        mail.end(0);
        Check.same("all but the fault", Picture.of(mail).replaceAll("fault \\d+", "fault -1"), before);
        GlacierMail free = new GlacierMail();
        Check.wrongValley(free, "lanes 6;last 99;x", 16);
        Check.same("lanes", free.count(0), 3);
        Check.same("last", free.count(1), 40);
        Check.law(free, "fast 7");
        Check.wrongLaw(free, "fast 8;fast 9;x", 14);
        Check.same("flow", free.flow(0, 0, 0), 7);
    }
}
