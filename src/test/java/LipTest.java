/** Promises 35 to 43: thieves, the watchman, meetings, and what comes out when and where. */
public final class LipTest {
    public static void main(String[] args) {
        thieves();
        thievesGoByOneLane();
        watchman();
        meetings();
        outsAndOrder();
        streams();
        ranges();
        bare();
        Check.finish();
    }

    private static void thieves() {
        // lane 0: out in 1; lane 1: out in 2; lane 2: out in 2 (twice), the rocks do not count
        GlacierMail mail = Check.told("lanes 3;last 10;section 0 9 5 5;person 0 5;person 1 3;person 2 2;"
                + "rock 0 0;rock 0 0;rock 0 9;rock 0 9");
        mail.post(0, 1);
        mail.post(1, 0);
        mail.post(2, 0);
        mail.post(2, 0);
        Check.same("nothing comes in year 0", mail.thieves(1, false), 0);
        Check.same("begin anywhere", mail.thieves(1, true), 0);
        Check.same("one in two years", mail.thieves(2, false), 1);
        Check.same("begin at 0, or 1", mail.thieves(2, true), 0);
        // in year 1 at lane 0 and in 2 at lane 1: two; or in 2 at lane 2: two
        Check.same("two in three years", mail.thieves(3, false), 2);
        Check.same("begin at 0", mail.thieves(3, true), 0);
        mail.post(2, 0);
        Check.same("three in lane 2", mail.thieves(30, false), 3);
        Check.same("0, 1, 2", mail.thieves(30, true), 0);
        mail.years(1);
        Check.same("0 is too far by now: 1, 2", mail.thieves(30, true), 1);
        Check.same("three", mail.thieves(2, false), 3);
        mail.years(1);
        Check.same("opened or not", mail.thieves(1, false), 3);
        Check.same("there one begins", mail.thieves(1, true), 2);
        mail.years(1);
        Check.same("gone by", mail.thieves(30, false), 0);
        Check.argument("0", () -> mail.thieves(0, true));
        Check.argument("31", () -> mail.thieves(31, false));
        Check.same("one lane", Check.told("lanes 1").thieves(30, true), 0);
    }

    private static void thievesGoByOneLane() {
        // two in lane 3 in year 1, and three in lane 0 in year 4: just three years between; in year 3 it is too soon
        GlacierMail mail = Check.told("lanes 4;last 12;section 0 3 1 1 12;person 3 0;person 0 0;person 0 3");
        mail.post(0, 1);
        mail.post(0, 1);
        mail.post(1, 0);
        mail.post(1, 0);
        Check.same("all", mail.thieves(5, false), 4);
        Check.same("in year 1 at 3, so from 2 on", mail.thieves(5, true), 2);
        mail.post(2, 0);
        mail.post(2, 0);
        mail.post(2, 0);
        // now three in lane 0 in year 3
        Check.same("five at lane 0", mail.thieves(5, false), 5);
        Check.same("begin at 0", mail.thieves(5, true), 0);
        // in year 1 at 3, and a year later at 2: one goes back by one lane
        GlacierMail back = Check.told("lanes 4;last 12;section 0 1 1 6 12;person 3 0;person 2 0");
        back.post(0, 1);
        back.post(1, 0);
        Check.same("both", back.thieves(3, false), 2);
        Check.same("begin at 2", back.thieves(3, true), 2);
        // from 3 to 1 in a year is too far
        GlacierMail far = Check.told("lanes 4;last 12;section 0 1 6 1 12;person 3 0;person 1 0");
        far.post(0, 1);
        far.post(1, 0);
        Check.same("one of both", far.thieves(3, false), 1);
        Check.same("begin at 0", far.thieves(3, true), 0);
    }

    private static void watchman() {
        GlacierMail mail = Check.told("lanes 3;last 10;section 0 9 5 5;person 0 5;person 1 3;person 2 2;"
                + "rock 1 5;rock 1 5;rock 1 5");
        Check.same("nothing at all", mail.watchman(30, false), 0);
        Check.same("nothing at all, how many", mail.watchman(30, true), 0);
        mail.post(0, 1);
        mail.post(1, 0);
        mail.post(2, 0);
        mail.post(2, 0);
        // in year 1: lane 0 one; in year 2: lane 1 one, lane 2 two
        Check.same("year 0", mail.watchman(1, false), 0);
        Check.same("years 0, 1", mail.watchman(2, true), 0);
        Check.same("guards lane 2", mail.watchman(3, false), 2);
        Check.same("one in another lane", mail.watchman(3, true), 1);
        mail.post(0, 1);
        Check.same("both 0 and 2 have two: the least", mail.watchman(3, false), 0);
        Check.same("two", mail.watchman(3, true), 2);
        mail.years(2);
        Check.same("lane 2 comes out now: guard it", mail.watchman(1, false), 2);
        Check.same("one in lane 1", mail.watchman(1, true), 1);
        GlacierMail middle = Check.told("lanes 3;last 10;section 0 5 5 5;person 1 0;person 0 0");
        middle.post(0, 1);
        Check.same("guards lane 1", middle.watchman(3, false), 1);
        Check.same("none elsewhere", middle.watchman(3, true), 0);
        Check.argument("0", () -> mail.watchman(0, true));
        Check.argument("31", () -> mail.watchman(31, false));
        GlacierMail one = Check.told("lanes 1;last 10;section 0 9;person 0 5;person 0 3");
        one.post(0, 1);
        Check.same("one lane", one.watchman(30, false), 0);
        Check.same("one lane, none", one.watchman(30, true), 0);
    }

    private static void meetings() {
        GlacierMail mail = Check.told("lanes 2;last 30;section 0 4 4;section 10 2 2;section 20 0 0;"
                + "rock 0 3;rock 0 9;rock 1 3;rock 0 0");
        // rock 0: 3 7 11 13 15 17 19 21; rock 1: 9 13 15 17 19 21; rock 3: 0 4 8 12 14 16 18 20
        Check.same("where it stands", mail.meeting(0, 1), 7);
        Check.same("the other way round", mail.meeting(1, 0), 7);
        Check.same("never", mail.meeting(0, 3), -1);
        Check.same("another lane", mail.meeting(0, 2), -1);
        mail.years(9);
        Check.same("from now on", mail.meeting(0, 1), 9);
        Check.index("letter", () -> mail.meeting(4, 0));
        Check.index("other", () -> mail.meeting(0, -1));
        Check.index("both none", () -> mail.meeting(4, 4));
        Check.argument("both one", () -> mail.meeting(0, 0));
        GlacierMail out = Check.told("lanes 1;last 10;section 0 5;rock 0 0;rock 0 5;rock 0 4;person 0 4;person 0 5");
        Check.same("at the lip they do not meet", out.meeting(0, 1), -1);
        out.post(0, 1);
        Check.same("at once", out.meeting(2, 3), 0);
        out.years(1);
        Check.same("a year on", out.meeting(2, 3), 1);
        out.years(1);
        Check.same("out by now", out.meeting(2, 3), -1);
    }

    private static void outsAndOrder() {
        GlacierMail mail = Check.told("lanes 2;last 10;section 0 5 0;rock 0 0;rock 1 0;rock 0 5;person 0 0;person 0 5");
        mail.post(0, 1);
        mail.post(1, 0);
        // 0: 2; 1: never; 2: 1; 3: 2; 4: 1
        Check.same("the very first", mail.order(0), 2);
        Check.same("outs 0", mail.outs(0), 0);
        Check.same("outs 1", mail.outs(1), 2);
        Check.same("outs 2", mail.outs(2), 2);
        Check.same("outs 3", mail.outs(3), 0);
        Check.argument("outs 300", () -> mail.outs(300));
        Check.argument("outs -1", () -> mail.outs(-1));
        int[] order = {2, 4, 0, 3, -1};
        for (int k = 0; k < order.length; k++) {
            Check.same("order " + k, mail.order(k), order[k]);
        }
        Check.same("order -1", mail.order(-1), -1);
        Check.same("order of far", mail.order(Integer.MAX_VALUE), -1);
        Check.same("order below", mail.order(Integer.MIN_VALUE), -1);
    }

    private static void streams() {
        GlacierMail mail = Check.told("lanes 3;last 10;section 0 5 5 5;rock 0 0;rock 1 5;rock 2 0;rock 2 5;stripe 1");
        Check.same("first by 1", mail.streams(1, false), 0);
        Check.same("second by 1", mail.streams(1, true), 2);
        Check.same("first by 2", mail.streams(2, false), 1);
        Check.same("second by 299", mail.streams(299, true), 3);
        Check.valley(mail, "stripe 3");
        Check.same("all are of the first", mail.streams(299, false), 4);
        Check.same("none of the second", mail.streams(299, true), 0);
        Check.valley(mail, "stripe 0");
        Check.same("none of the first", mail.streams(299, false), 0);
        Check.argument("year 300", () -> mail.streams(300, false));
        Check.argument("year -1", () -> mail.streams(-1, true));
    }

    private static void ranges() {
        GlacierMail mail = Check.told("lanes 3;last 20;section 0 5 9 0;section 10 5 1 0;section 12 5 8 9");
        Check.same("range 0", mail.range(0, 0), 4);
        Check.same("range 1 (9, 18, 26)", mail.range(1, 7), 3);
        Check.same("range 2", mail.range(2, 0), -1);
        Check.same("too late", mail.range(0, 296), -1);
        Check.same("just in time", mail.range(0, 295), 4);
        Check.same("in the last year", mail.range(0, 299), -1);
        Check.index("lane 3", () -> mail.range(3, 300));
        Check.argument("year 300", () -> mail.range(0, 300));
        Check.argument("year -1", () -> mail.range(0, -1));
        Check.same("swiftest from 0", mail.swiftest(0, 0), 1);
        Check.same("swiftest from 10", mail.swiftest(10, 0), 0);
        Check.same("swiftest from 12: of several the least", mail.swiftest(15, 0), 0);
        Check.same("swiftest from 11 (16, 21; 12, 20; none)", mail.swiftest(11, 0), 0);
        Check.same("swiftest from 14", mail.swiftest(14, 0), 1);
        Check.same("none is out", mail.swiftest(0, 298), -1);
        Check.index("row 20", () -> mail.swiftest(20, 300));
        Check.index("row -1", () -> mail.swiftest(-1, 0));
        Check.argument("swiftest year 300", () -> mail.swiftest(0, 300));
        Check.argument("swiftest year -1", () -> mail.swiftest(19, -1));
        GlacierMail last = Check.told("lanes 3;last 20;section 0 0 0 5");
        Check.same("only the last lane", last.swiftest(0, 0), 2);
    }

    private static void bare() {
        // seed 1: heats 8 8 3 5 1 7 0; 9 deep in year 1, 1 in 2, 0 in 3, out in 4
        GlacierMail mail = Check.told("lanes 1;last 12;section 0 3;snow 3 fall 9;person 0 0;person 0 3;rock 0 0");
        mail.post(0, 1);
        mail.post(1, 0);
        int[] due = {0, 5, 5, 3, 0, 0};
        for (int year = 0; year < due.length; year++) {
            Check.same("bare in " + year, mail.bare(year), due[year]);
        }
        mail.years(2);
        mail.post(1, 0);
        Check.same("not in the year of the throw", mail.bare(2), 5);
        Check.same("but a year on", mail.bare(3), 11);
        Check.argument("year 300", () -> mail.bare(300));
        Check.argument("year -1", () -> mail.bare(-1));
    }
}
