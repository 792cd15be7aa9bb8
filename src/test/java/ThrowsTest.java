/** Promises 18 to 27: throws as they would be, floods, the market, passing, and who wrote what. */
public final class ThrowsTest {
    public static void main(String[] args) {
        throwsFor();
        latest();
        hut();
        floods();
        floodsOfTheFirstYear();
        lost();
        market();
        passes();
        passesThatAreNone();
        writers();
        Check.finish();
    }

    private static void throwsFor() {
        GlacierMail mail = Check.told("lanes 2;last 20;section 0 5 0;section 12 3 0;flood 4 18 1");
        // lane 0: 17, 18, 19 are out a year later, 14 to 16 in two, 9 to 13 (by 14, 15, 16, 15, 16) in three
        Check.same("how many in a year", mail.throwsFor(0, 0, 1, 0), 3);
        Check.same("the least", mail.throwsFor(0, 0, 1, 1), 17);
        Check.same("the greatest", mail.throwsFor(0, 0, 1, 2), 19);
        Check.same("how many in three", mail.throwsFor(0, 0, 3, 0), 5);
        Check.same("the least in three", mail.throwsFor(0, 0, 3, 1), 9);
        Check.same("the greatest in three", mail.throwsFor(0, 0, 3, 2), 13);
        Check.same("16 by the flood in year 4, too", mail.throwsFor(0, 4, 5, 0), 4);
        Check.same("in four from 4 on", mail.throwsFor(0, 0, 4, 1), 4);
        Check.same("in five years from 0 on (5, 10, 15, 18)", mail.throwsFor(0, 6, 11, 1), 0);
        Check.same("none in its own year", mail.throwsFor(0, 4, 4, 0), 0);
        Check.same("none ahead of it", mail.throwsFor(0, 4, 2, 1), -1);
        Check.same("none ever", mail.throwsFor(1, 0, 299, 2), -1);
        Check.same("none ever, how many", mail.throwsFor(1, 0, 299, 0), 0);
        mail.years(3);
        Check.same("from now on", mail.throwsFor(0, 3, 299, 0), 0);
        Check.argument("ahead of now", () -> mail.throwsFor(0, 2, 4, 0));
        Check.argument("ahead of now, and no such what", () -> mail.throwsFor(0, 2, 4, 3));
        Check.argument("year 300", () -> mail.throwsFor(0, 300, 4, 0));
        Check.argument("out 300", () -> mail.throwsFor(0, 3, 300, 0));
        Check.argument("out -1", () -> mail.throwsFor(0, 3, -1, 0));
        Check.element("what 3", () -> mail.throwsFor(0, 3, 4, 3));
        Check.element("what -1", () -> mail.throwsFor(0, 3, 4, -1));
        Check.index("lane 2", () -> mail.throwsFor(2, -1, -1, -1));
    }

    private static void latest() {
        GlacierMail mail = Check.told("lanes 2;last 20;section 0 5 0;person 0 0;person 1 0;person 0 19");
        Check.same("four years ahead", mail.latest(0, 10), 6);
        Check.same("one year ahead", mail.latest(2, 299), 298);
        Check.same("just so", mail.latest(0, 4), 0);
        Check.same("too soon", mail.latest(0, 3), -1);
        Check.same("never", mail.latest(1, 299), -1);
        Check.law(mail, "slow 5 if year > 2");
        Check.same("all stands from year 3 on", mail.latest(0, 299), -1);
        Check.same("ahead of that", mail.latest(2, 299), 2);
        mail.years(2);
        Check.same("from now on", mail.latest(2, 299), 2);
        mail.years(1);
        Check.same("gone by", mail.latest(2, 299), -1);
        Check.same("a year gone by", mail.latest(2, 0), -1);
        Check.argument("year 300", () -> mail.latest(0, 300));
        Check.argument("year -1", () -> mail.latest(0, -1));
        Check.index("person", () -> mail.latest(3, 300));
        // what is thrown in later may come sooner: the latest year counts, with all gaps
        GlacierMail gap = Check.told("lanes 1;last 20;section 0 0;person 0 0");
        Check.law(gap, "fast 20 if year > 4 and year < 6");
        Check.same("thrown in in the year itself", gap.latest(0, 299), 5);
    }

    private static void hut() {
        GlacierMail mail = Check.told("lanes 2;last 20;section 0 5 0;section 12 3 0;section 17 0 0");
        Check.same("in a year", mail.hut(0, 1), -1);
        Check.same("never", mail.hut(1, 299), -1);
        GlacierMail swift = Check.told("lanes 1;last 20;section 0 12;section 4 1;section 10 4;section 15 2");
        // from 0: 12, 16, 18, 20
        Check.same("in four years from 0", swift.hut(0, 4), 0);
        Check.same("in three years from 2 (14, 18, 20)", swift.hut(0, 3), 2);
        Check.same("in two years from 14", swift.hut(0, 2), 14);
        Check.same("in one", swift.hut(0, 1), 18);
        swift.years(50);
        Check.same("as ever", swift.hut(0, 299), 0);
        for (int i = 0; i < 4; i++) {
            swift.years(50);
        }
        swift.years(48);
        Check.same("only a year is left", swift.hut(0, 299), 18);
        swift.years(1);
        Check.same("none is left", swift.hut(0, 299), -1);
        Check.argument("0 years", () -> swift.hut(0, 0));
        Check.argument("300 years", () -> swift.hut(0, 300));
        Check.index("lane", () -> swift.hut(1, 0));
    }

    private static void floods() {
        GlacierMail mail = Check.told("lanes 1;last 20;section 0 4;person 0 0;person 0 1;"
                + "flood 1 0 5;flood 1 13 2;flood 2 17 20;flood 3 0 1;rock 0 12");
        mail.post(0, 1);
        // the rock: 16 in year 1, 20 by its flow, 25, 27
        Check.same("rock out", mail.letter(0, 7), 2);
        Check.same("moved beyond the lip, too", mail.moved(0), 7);
        // the letter: 4; 8 and 13 and 15 in year 2; 19 and 39 in year 3
        Check.same("where", mail.where(1, 2), 15);
        Check.same("out", mail.letter(1, 7), 3);
        Check.same("moved", mail.moved(1), 27);
        Check.same("without the first: 8 in year 2, 12 in 3, 17 in 4", mail.without(1, 0), 5);
        Check.same("without the second: 13 in year 2, 37", mail.without(1, 1), 3);
        Check.same("without the third: 15, 19 and no more, then 24", mail.without(1, 2), 4);
        Check.same("without the fourth", mail.without(1, 3), 3);
        Check.same("the rock without it", mail.without(0, 0), 2);
        Check.index("letter", () -> mail.without(2, 0));
        Check.index("flood", () -> mail.without(0, 4));
        Check.index("flood", () -> mail.without(0, -1));
        Check.index("moved", () -> mail.moved(2));
        Check.index("moved", () -> mail.moved(-1));
        GlacierMail still = Check.told("lanes 1;last 20;section 0 0;rock 0 0;flood 7 0 19");
        Check.same("moved, never out", still.moved(0), 19);
        Check.same("never out", still.without(0, 0), -1);
        Check.valley(still, "flood 299 0 1");
        Check.same("moved in the last year", still.moved(0), 20);
        Check.same("but not out by then", still.letter(0, 7), -1);
    }

    private static void floodsOfTheFirstYear() {
        GlacierMail mail = Check.told("lanes 1;last 20;section 0 4;rock 0 0;flood 0 4 3;flood 0 8 3;flood 0 7 1");
        Check.same("by the row that the flow, and each flood, brought", mail.where(0, 1), 8);
        Check.same("moved", mail.moved(0), 4);
        Check.same("without the first", mail.without(0, 0), 5);
    }

    private static void lost() {
        GlacierMail mail = Check.told("lanes 2;last 20;section 0 0 1;rock 0 0;rock 1 0;person 0 0;person 1 0");
        mail.post(0, 1);
        mail.post(1, 0);
        Check.same("lost", mail.lost(), 5);
        Check.law(mail, "fast 1");
        Check.same("none is lost", mail.lost(), 0);
        Check.same("lost of nothing", new GlacierMail().lost(), 0);
    }

    private static void market() {
        GlacierMail mail = Check.told("lanes 2;last 20;section 0 5 4;person 0 0;person 1 0;person 0 10;"
                + "rock 0 0;rock 0 0;rock 0 0");
        Check.same("no letter", mail.market(false), -1);
        Check.same("none of them", mail.market(true), 0);
        mail.post(1, 0);
        mail.post(2, 0);
        Check.same("of several the first", mail.market(false), 2);
        Check.same("one", mail.market(true), 1);
        mail.post(1, 0);
        Check.same("the most", mail.market(false), 5);
        Check.same("two", mail.market(true), 2);
        mail.years(10);
        Check.same("gone by, too", mail.market(false), 5);
        GlacierMail few = Check.told("lanes 2;last 20;section 0 0 5;person 0 0;person 1 0");
        few.post(0, 1);
        Check.same("one that is lost makes no market", few.market(true), 0);
        Check.same("nor its year", few.market(false), -1);
        few.undo();
        few.post(1, 0);
        Check.same("the first letter alone", few.market(false), 4);
    }

    private static void passes() {
        // what lies above row 10 flows fast, what lies below it slowly
        GlacierMail mail = Check.told("lanes 2;last 40;section 0 9 9;section 10 1 1;section 15 9 9;"
                + "rock 0 10;rock 0 8;rock 0 7;rock 1 7;rock 0 10;rock 0 30");
        // rock 1: 8, 17; rock 2: 7, 16; rocks 0 and 4: 10, 11; rock 5: 30, 39, out
        Check.same("passes two of its lane", mail.passes(1), 2);
        Check.same("and so does the next", mail.passes(2), 2);
        Check.same("none in the other lane", mail.passes(3), 0);
        Check.same("passed, not passing", mail.passes(0), 0);
        Check.same("not one that began behind", mail.passes(4), 0);
        Check.index("letter 6", () -> mail.passes(6));
        Check.index("letter -1", () -> mail.passes(-1));
        // thrown in in different years: what counts is the first year of both
        GlacierMail later = Check.told("lanes 1;last 40;section 0 9;section 10 0;section 30 9;person 0 2;person 0 3;"
                + "rock 0 1");
        later.years(1);
        // the rock lies at 10 and stays there
        later.post(0, 1);
        Check.same("passes the rock by 11", later.passes(1), 1);
        Check.same("the rock passes none", later.passes(0), 0);
        later.post(1, 0);
        Check.same("12 of 11 was never behind", later.passes(2), 1);
        // all stands but in one year: what it brings is seen at the begin of the next
        GlacierMail last = Check.told("lanes 1;last 20;section 0 0;rock 0 3;rock 0 5");
        Check.law(last, "fast 4 if row < 4 and year > 297");
        Check.same("passed by the begin of the last year", last.passes(0), 1);
        Check.law(last, "fast 4 if row < 4 and year > 298");
        Check.same("behind the last year none is seen", last.passes(0), 0);
    }

    private static void passesThatAreNone() {
        // it is out before it has been seen ahead
        GlacierMail mail = Check.told("lanes 1;last 20;section 0 20;section 10 0;rock 0 5;rock 0 10");
        Check.same("not in the ice any more", mail.passes(0), 0);
        // both at one row: not the lesser one
        GlacierMail even = Check.told("lanes 1;last 20;section 0 1;rock 0 5;rock 0 5");
        Check.same("side by side", even.passes(0), 0);
        GlacierMail catching = Check.told("lanes 1;last 20;section 0 1;section 6 0;rock 0 5;rock 0 6");
        Check.same("caught up with, not passed", catching.passes(0), 0);
        GlacierMail out = Check.told("lanes 1;last 20;section 0 1;rock 0 19;person 0 0;person 0 1");
        out.years(3);
        out.post(0, 1);
        Check.same("out as the other came", out.passes(1), 0);
    }

    private static void writers() {
        // seed 1: heats 8 8 3 5 1 7 0 9 2 6
        GlacierMail mail = Check.told("lanes 2;last 20;section 0 5 5;snow 5 fall 9;person 0 0;person 0 5;person 1 0;"
                + "person 0 15");
        // from 0: 9 deep a year later, then three heats; from 5: 0 deep ever
        Check.same("out in 7: thrown in in 3, less 1, 7, 0", mail.wrote(0, 0, 7, 1), 3);
        Check.same("so deep", mail.writers(0, 7, 1), 1);
        Check.same("not so deep: the others", mail.writers(0, 7, 0), 10);
        Check.same("15 just a year ahead", mail.wrote(3, 0, 7, 0), 6);
        Check.same("5 in three years", mail.wrote(1, 0, 7, 0), 4);
        Check.same("another lane", mail.wrote(2, 0, 7, 1), -1);
        Check.same("in that lane", mail.writers(1, 7, 1), 4);
        Check.same("too soon for 0", mail.writers(0, 3, 0), 10);
        Check.same("too soon for all", mail.writers(0, 0, 0), 0);
        Check.same("from year 0 on", mail.wrote(3, 0, 1, 0), 0);
        mail.years(50);
        Check.same("years gone by, too", mail.wrote(0, 0, 7, 1), 3);
        Check.same("nobody so deep", mail.writers(0, 7, 99), 0);
        Check.argument("deep 100", () -> mail.writers(0, 7, 100));
        Check.argument("deep -1", () -> mail.writers(0, 7, -1));
        Check.argument("year 300", () -> mail.writers(0, 300, 0));
        Check.argument("year -1", () -> mail.writers(0, -1, 0));
        Check.index("lane", () -> mail.writers(2, 300, 0));
        Check.argument("wrote: deep 100", () -> mail.wrote(0, 0, 7, 100));
        Check.argument("wrote: deep -1", () -> mail.wrote(0, 0, 7, -1));
        Check.argument("wrote: year 300", () -> mail.wrote(0, 0, 300, 0));
        Check.index("wrote: lane", () -> mail.wrote(0, 2, 7, 0));
        Check.index("wrote: person", () -> mail.wrote(4, 0, 7, -1));
        // of several years the greatest: all stands but in year 9
        GlacierMail still = Check.told("lanes 1;last 20;section 0 0;snow 0 fall 1;person 0 0");
        Check.law(still, "fast 20 if year > 8 and year < 10");
        Check.same("the greatest", still.wrote(0, 0, 10, 0), 9);
    }
}
