/** Promises 5, 6 and 9: the text of THE LAW, its first wrong bytes, and FLOW by it. */
public final class LawTest {
    public static void main(String[] args) {
        lines();
        wrongTexts();
        depth();
        sums();
        words();
        logic();
        bounds();
        fullTape();
        opens();
        Check.finish();
    }

    private static void lines() {
        GlacierMail mail = new GlacierMail();
        Check.same("without a law", mail.count(8), -1);
        Check.same("an empty law", Check.law(mail, " "), 0);
        Check.same("lines of an empty law", mail.count(8), 0);
        String line = "fast 1";
        String text = String.join(";", java.util.Collections.nCopies(12, line));
        Check.same("twelve lines", Check.law(mail, text), 12);
        Check.same("flow by twelve lines", mail.flow(0, 0, 0), 12);
        Check.wrongLaw(mail, text + ";fast 1", 84);
        Check.wrongLaw(mail, text + ";", 84);
        Check.same("the law stays", mail.flow(0, 0, 0), 12);
        Check.same("another law in its place", Check.law(mail, "fast3;slow1if 1<2"), 2);
        Check.same("flow", mail.flow(0, 0, 0), 2);
        Check.same("fault", mail.fault(), -1);
        Check.law(mail, "fast 1 if 2<1;fast 2;fast 4 if 1<2;slow 1 if 2<1;open if 2<1");
        Check.same("each line by its own condition", mail.flow(0, 0, 0), 6);
        Check.law(mail, "fast 1 if 1<2;fast 2 if 2<1;fast 4 if row<1 or 2<1;fast 8 if 1>0 and row>0");
        Check.same("each line by its own condition", mail.flow(0, 0, 0), 5);
        Check.same("at another row", mail.flow(0, 1, 0), 9);
    }

    private static void wrongTexts() {
        GlacierMail mail = new GlacierMail();
        Check.wrongLaw(mail, ";", 0);
        Check.wrongLaw(mail, "fast if side", 5);
        Check.wrongLaw(mail, "fast 0001", 5);
        Check.wrongLaw(mail, "fast 21", 5);
        Check.wrongLaw(mail, "slow 21", 5);
        Check.wrongLaw(mail, "fast 1 side", 7);
        Check.wrongLaw(mail, "fast 1 if", 9);
        Check.wrongLaw(mail, "fast 1 if ;", 10);
        Check.wrongLaw(mail, "fast 1 if 1000 < 1", 10);
        Check.wrongLaw(mail, "fast 1 if 1 < 1000", 14);
        Check.wrongLaw(mail, "fast 1 if 1 = 1", 12);
        Check.wrongLaw(mail, "fast 1 if 1 < 1 < 1", 16);
        Check.wrongLaw(mail, "fast 1 if 1 + < 1", 14);
        Check.wrongLaw(mail, "fast 1 if 1 < ", 14);
        Check.wrongLaw(mail, "fast 1 if lanes < 1", 10);
        Check.wrongLaw(mail, "fast 1 if lane lane", 15);
        Check.wrongLaw(mail, "fast 1 if side first", 15);
        Check.wrongLaw(mail, "fast 1 if side and", 18);
        Check.wrongLaw(mail, "fast 1 if side or or", 18);
        Check.wrongLaw(mail, "fast 1 if notside", 10);
        Check.wrongLaw(mail, "fast 1 if not", 13);
        Check.wrongLaw(mail, "fast 1 if ()", 11);
        Check.wrongLaw(mail, "fast 1 if (side;", 15);
        Check.wrongLaw(mail, "fast 1 if side)", 14);
        Check.wrongLaw(mail, "fast 1 if (1) < 2", 12);
        Check.wrongLaw(mail, "open if side side", 13);
        Check.wrongLaw(mail, "open 3", 5);
        Check.wrongLaw(mail, "opens", 0);
        Check.wrongLaw(mail, "seed 1", 0);
        Check.wrongLaw(mail, "fast 1 if side and < 2", 19);
        Check.same("no law came", mail.count(8), -1);
    }

    private static void depth() {
        GlacierMail mail = new GlacierMail();
        Check.same("six deep", Check.law(mail, "fast 1 if ((((((side))))))"), 1);
        Check.wrongLaw(mail, "fast 1 if (((((((side)))))))", 16);
        Check.same("six not", Check.law(mail, "fast 1 if not not not not not not side"), 1);
        Check.same("flow by six not", mail.flow(0, 0, 0), 1);
        Check.same("both kinds", Check.law(mail, "fast 1 if not(not(not(side)))"), 1);
        Check.wrongLaw(mail, "fast 1 if not(not(not(not side)))", 22);
        Check.wrongLaw(mail, "fast 1 if not(not(not((side))))", 22);
        Check.same("beside one another", Check.law(mail, "fast 1 if (side) and (side) or not side and not first and "
                + "((((((1<2))))) or first)"), 1);
    }

    private static void sums() {
        GlacierMail mail = Check.told("lanes 4;last 99;section 0 1 2 3 4;section 50 5 6 7 8;seed 1");
        Check.law(mail, "fast 5 if lane + row + 1 < 10");
        Check.same("3+5+1", mail.flow(3, 5, 0), 9);
        Check.same("3+6+1", mail.flow(3, 6, 0), 4);
        Check.law(mail, "fast 5 if 999 + year > heat + speed + 999 + 1");
        // heat of year 9 is 6; 999 + 9 > 6 + 1 + 1000 only in lane 0 of the first section
        Check.same("1008 > 1007", mail.flow(0, 0, 9), 6);
        Check.same("1008 > 1008", mail.flow(1, 0, 9), 2);
    }

    private static void words() {
        GlacierMail mail = Check.told("lanes 4;last 99;section 0 1 2 3 4;stripe 2");
        Check.law(mail, "fast 5 if side");
        Check.same("side 0", mail.flow(0, 0, 0), 6);
        Check.same("side 1", mail.flow(1, 0, 0), 2);
        Check.same("side 2", mail.flow(2, 0, 0), 3);
        Check.same("side 3", mail.flow(3, 0, 0), 9);
        Check.law(mail, "fast 5 if first");
        Check.same("first 1", mail.flow(1, 0, 0), 7);
        Check.same("first 2", mail.flow(2, 0, 0), 3);
        Check.valley(mail, "stripe 3");
        Check.same("first 2 by another stripe", mail.flow(2, 0, 0), 8);
        Check.law(mail, "fast 5 if lane > 2");
        Check.same("lane 3", mail.flow(3, 0, 0), 9);
        Check.law(mail, "fast 5 if row > 6");
        Check.same("row 6", mail.flow(3, 6, 0), 4);
        Check.same("row 7", mail.flow(3, 7, 0), 9);
        Check.law(mail, "fast 5 if year > 6");
        Check.same("year 6", mail.flow(3, 0, 6), 4);
        Check.same("year 7", mail.flow(3, 0, 7), 9);
        Check.law(mail, "fast 5 if heat > 7");
        Check.same("heat 8", mail.flow(3, 0, 0), 9);
        Check.same("heat 3", mail.flow(3, 0, 2), 4);
        Check.law(mail, "fast 5 if speed > 2");
        Check.same("speed 2", mail.flow(1, 0, 0), 2);
        Check.same("speed 3", mail.flow(2, 0, 0), 8);
        Check.law(mail, "fast 5 if person + age + deep > 0");
        Check.same("person, age, deep are 0", mail.flow(3, 50, 50), 4);
        Check.law(mail, "fast 1 if person < 1;fast 2 if age < 1;fast 4 if deep < 1");
        Check.same("each is 0", mail.flow(0, 50, 50), 8);
    }

    private static void logic() {
        GlacierMail mail = new GlacierMail();
        String yes = "1<2";
        String no = "2<1";
        Object[][] cases = {
            {yes, 1}, {no, 0}, {"2>1", 1}, {"1>1", 0}, {"1<1", 0}, {"not " + no, 1}, {"not not " + no, 0},
            {yes + " and " + yes, 1}, {yes + " and " + no, 0}, {no + " and " + yes, 0},
            {yes + " or " + no, 1}, {no + " or " + yes, 1}, {no + " or " + no, 0},
            {yes + " or " + no + " and " + no, 1}, {no + " and " + no + " or " + yes, 1},
            {"(" + yes + " or " + no + ") and " + no, 0}, {no + " and (" + no + " or " + yes + ")", 0},
            {"not " + yes + " or " + yes, 1}, {"not (" + yes + " or " + yes + ")", 0},
            {"not " + no + " and " + no, 0}, {"not (" + no + " and " + no + ")", 1},
            {no + " or " + yes + " and " + yes + " or " + no, 1}, {no + " or " + yes + " and " + no + " or " + no, 0},
            // at lane 1 of 3: first, and not at a side
            {yes + " and first", 1}, {no + " and first", 0}, {yes + " and side", 0}, {yes + " or side", 1},
            {no + " or first", 1}, {no + " or side", 0}, {"first and " + yes, 1}, {"side or first", 1},
            {"first and side", 0}, {"first and not side and " + yes, 1}, {"not first or not side and first", 1},
            {"((((1+2+3>5 and (0<1 or 1<0)))))", 1}, {"(" + no + " or (" + yes + " and not " + no + "))", 1},
        };
        for (Object[] one : cases) {
            Check.law(mail, "fast 1 if " + one[0]);
            Check.same("fast 1 if " + one[0], mail.flow(1, 0, 0), one[1]);
        }
    }

    private static void bounds() {
        GlacierMail mail = Check.told("section 0 0 10 20");
        Check.law(mail, "fast 20");
        Check.same("30", mail.flow(1, 0, 0), 30);
        Check.same("40 is 30", mail.flow(2, 0, 0), 30);
        Check.law(mail, "fast 20;slow 15");
        Check.same("25, not 15", mail.flow(2, 0, 0), 25);
        Check.law(mail, "slow 20;fast 5");
        Check.same("-15 is 0", mail.flow(0, 0, 0), 0);
        Check.same("-5 is 0", mail.flow(1, 0, 0), 0);
        Check.same("5", mail.flow(2, 0, 0), 5);
        Check.law(mail, "open;fast 0");
        Check.same("open changes no flow", mail.flow(1, 0, 0), 10);
        mail.image();
        Check.law(mail, "fast 1");
        Check.same("by the new law", mail.flow(1, 0, 0), 11);
        mail.back();
        Check.same("by the law of the image", mail.flow(1, 0, 0), 10);
        Check.valley(mail, "section 5 1 1 1");
        Check.same("by the new section", mail.flow(1, 5, 0), 1);
    }

    private static void fullTape() {
        GlacierMail mail = new GlacierMail();
        String head = "fast1if0<1";
        String text = head + "and0<1".repeat(65);
        Check.same("400 bytes", text.length(), 400);
        Check.same("as many conditions as can be", Check.law(mail, text), 1);
        Check.same("all hold", mail.flow(0, 0, 0), 1);
        Check.law(mail, text.substring(0, 399) + "0");
        Check.same("all but the last", mail.flow(0, 0, 0), 0);
        String either = "fast1if1<0" + "or1<0".repeat(77);
        Check.same("the dearest text: a code a byte behind its first words", Check.law(mail, either + "or0<1"), 1);
        Check.same("just the last holds", mail.flow(0, 0, 0), 1);
        Check.law(mail, either + "or1<1");
        Check.same("none holds", mail.flow(0, 0, 0), 0);
        Check.law(mail, "fast1if row>" + "+1".repeat(194).substring(1));
        Check.same("194 parts", mail.flow(0, 0, 0), 0);
        Check.law(mail, "fast1if " + "+9".repeat(193).substring(1) + ">999");
        Check.same("9 times 193", mail.flow(0, 0, 0), 1);
        Check.law(mail, "fast1if not(1<0 or(1<0 or(1<0 or(1<0 or(0<1 and 1<0)or 1<0)or 1<0)or 1<0)or 1<0)");
        Check.same("deep", mail.flow(0, 0, 0), 1);
    }

    /** Whether the watcher (person 1) opens what person 0 threw to person 2, who does not watch, in one year. */
    private static int openedBy(String law) {
        GlacierMail mail = Check.told("lanes 4;last 10;section 0 9 9 9 9;stripe 2;snow 9 fall 3;seed 1;"
                + "person 1 1;person 0 0 watch 1;person 2 2");
        mail.years(1);
        Check.law(mail, law);
        mail.post(0, 2);
        mail.years(1);
        return mail.letter(0, 5);
    }

    private static void opens() {
        // thrown in in year 1, out in year 2 (heat 3), 3 deep, lane 1 of 4
        Check.same("open", openedBy("open"), 1);
        Check.same("no open line", openedBy("fast 1"), -1);
        Check.same("side", openedBy("open if side"), -1);
        Check.same("first", openedBy("open if first"), 1);
        Check.same("lane", openedBy("open if lane > 0 and lane < 2"), 1);
        Check.same("row", openedBy("open if row > 9 and row < 11"), 1);
        Check.same("year", openedBy("open if year > 1 and year < 3"), 1);
        Check.same("heat", openedBy("open if heat > 2 and heat < 4"), 1);
        Check.same("speed", openedBy("open if speed > 0"), -1);
        Check.same("person", openedBy("open if person > 0 and person < 2"), 1);
        Check.same("age", openedBy("open if age > 0 and age < 2"), 1);
        Check.same("deep", openedBy("open if deep > 2 and deep < 4"), 1);
        Check.same("one of several", openedBy("open if side;open if deep < 3;open if person > 0"), 1);
        Check.same("none of several", openedBy("open if side;open if deep < 3"), -1);
    }
}
