/** The part headed ==== 3., up to POLES: throws as they would be, floods, the market, passing, writers. */
final class ThrowsWords {
    private ThrowsWords() {
    }

    static void all() {
        Doc.says(Doc.ASKING, "THROWS that come OUT in a told YEAR, in a LANE,", ThrowsWords::justThatYear);
        Doc.says(Doc.ASKING, "thrown in in a YEAR from NOW on (told):", ThrowsWords::fromNowOn);
        Doc.says(Doc.ASKING, "ROWS (0 to LAST less 1),", ThrowsWords::rows);
        Doc.says(Doc.ASKING, "as they would be:", ThrowsWords::asTheyWouldBe);
        Doc.says(Doc.ASKING, "how many; the least and the greatest; none.", ThrowsWords::howMany);
        Doc.says(Doc.ASKING, "LATEST for a PERSON and a YEAR: the latest YEAR from NOW on", ThrowsWords::latestFromNowOn);
        Doc.says(Doc.ASKING, "in which one can throw in at the HUT so that it is OUT in that YEAR or ahead of it; none.",
                ThrowsWords::latestInTime);
        Doc.says(Doc.ASKING, "HUT in a LANE by N YEARS (1 to 299):", ThrowsWords::hutYears);
        Doc.says(Doc.ASKING, "the least ROW from which what is thrown in NOW is OUT within N YEARS; none.",
                ThrowsWords::hutRow);
        Doc.says(Doc.ASKING, "WITHOUT a FLOOD: the YEAR in which a LETTER were OUT, if that one FLOOD were not; none.",
                ThrowsWords::without);
        Doc.says(Doc.ASKING, "MOVED: by how many ROWS FLOODS moved a LETTER in all (beyond the LIP, too).",
                ThrowsWords::moved);
        Doc.says(Doc.ASKING, "LOST: all (ROCKS, too) that are never OUT, as bits.", ThrowsWords::lost);
        Doc.says(Doc.ASKING, "MARKET: the YEAR in which most (no ROCKS) are OUT (of several the first); how many; none.",
                ThrowsWords::market);
        Doc.says(Doc.ASKING, "PASSES of a LETTER: how many other ones of its LANE (ROCKS, too) are passed by it:",
                ThrowsWords::passes);
        Doc.says(Doc.ASKING, "at the begin of the first YEAR in which both are thrown in, both are in the ice, and it has"
                + " the lesser ROW;", ThrowsWords::passesFirst);
        Doc.says(Doc.ASKING, "at that of a later one both are in the ice, and it has the greater ROW.",
                ThrowsWords::passesLater);
        Doc.says(Doc.ASKING, "WRITERS of what was found OUT in a YEAR, in a LANE, so deep:", ThrowsWords::writersOf);
        Doc.says(Doc.ASKING, "PEOPLE who can have thrown it in at their HUT in some YEAR (0 on): as bits;",
                ThrowsWords::writersFrom0);
        Doc.says(Doc.ASKING, "the greatest such YEAR of one; none.", ThrowsWords::wroteGreatest);
    }

    /** Two lanes of 20 rows: 5 a year in lane 0, nothing moves in lane 1. */
    private static GlacierMail two(String lines) {
        return Check.told("lanes 2;last 20;section 0 5 0" + lines);
    }

    private static void justThatYear() {
        // 15 to 19 are out a year later, 10 to 14 in two, 5 to 9 in three, 0 to 4 in four
        GlacierMail mail = two("");
        for (int years = 1; years <= 4; years++) {
            Check.same("how many in " + years, mail.throwsFor(0, 7, 7 + years, 0), 5);
            Check.same("the least in " + years, mail.throwsFor(0, 7, 7 + years, 1), 20 - 5 * years);
            Check.same("the greatest in " + years, mail.throwsFor(0, 7, 7 + years, 2), 24 - 5 * years);
        }
        Check.same("not in the year of the throw", mail.throwsFor(0, 7, 7, 0), 0);
        Check.same("nor ahead of it", mail.throwsFor(0, 7, 6, 0), 0);
        Check.same("nor later than all", mail.throwsFor(0, 7, 12, 0), 0);
        Check.same("nor in the other lane", mail.throwsFor(1, 7, 8, 0), 0);
        Check.same("in the last year", mail.throwsFor(0, 298, 299, 0), 5);
        Check.same("in the last year from the last", mail.throwsFor(0, 299, 299, 0), 0);
    }

    private static void fromNowOn() {
        GlacierMail mail = two("");
        mail.years(3);
        Check.argument("a year gone by", () -> mail.throwsFor(0, 2, 4, 0));
        Check.same("NOW", mail.throwsFor(0, 3, 4, 0), 5);
        Check.same("later", mail.throwsFor(0, 4, 5, 0), 5);
        Check.same("out in a year gone by: none", mail.throwsFor(0, 3, 2, 0), 0);
    }

    private static void rows() {
        GlacierMail mail = Check.told("lanes 1;last 10;section 0 0");
        Check.law(mail, "fast 20");
        Check.same("all of 10", mail.throwsFor(0, 0, 1, 0), 10);
        Check.same("from row 0 on", mail.throwsFor(0, 0, 1, 1), 0);
        Check.same("to the row ahead of the LIP", mail.throwsFor(0, 0, 1, 2), 9);
        GlacierMail most = Check.told("lanes 1;last 99");
        Check.law(most, "fast 20;fast 10;fast 20");
        Check.same("30 of 99", most.throwsFor(0, 0, 1, 0), 30);
        Check.same("to the last", most.throwsFor(0, 0, 1, 2), 98);
    }

    private static void asTheyWouldBe() {
        GlacierMail mail = two(";flood 2 5 9;rock 0 19;person 0 3");
        // in year 2 all from 0 on come to 5 at least, and by the flood to 14: out in 4 from 1 on, and in 5 from 0
        Check.same("by a flood of that year: in two", mail.throwsFor(0, 2, 4, 1), 1);
        Check.same("no letter comes of it", mail.count(4), 1);
        Check.same("nor an act", mail.count(17), 0);
        Check.law(mail, "fast 15 if year > 6");
        Check.same("by the law of that year", mail.throwsFor(0, 7, 8, 0), 20);
    }

    private static void howMany() {
        GlacierMail mail = two(";section 12 3 0");
        // 17 to 19 in a year; 14 to 16 in two; 9 (14), 10 (15), 11 (16), 12, 13 in three
        Check.same("how many", mail.throwsFor(0, 0, 3, 0), 5);
        Check.same("the least", mail.throwsFor(0, 0, 3, 1), 9);
        Check.same("the greatest", mail.throwsFor(0, 0, 3, 2), 13);
        Check.same("none: how many", mail.throwsFor(1, 0, 3, 0), 0);
        Check.same("none: the least", mail.throwsFor(1, 0, 3, 1), -1);
        Check.same("none: the greatest", mail.throwsFor(1, 0, 3, 2), -1);
        GlacierMail one = Check.told("lanes 1;last 20;section 0 0;section 19 1");
        Check.same("one: how many", one.throwsFor(0, 0, 1, 0), 1);
        Check.same("one: the least", one.throwsFor(0, 0, 1, 1), 19);
        Check.same("one: the greatest", one.throwsFor(0, 0, 1, 2), 19);
    }

    private static void latestFromNowOn() {
        GlacierMail mail = two(";person 0 0");
        Check.same("in year 0", mail.latest(0, 4), 0);
        mail.years(6);
        Check.same("NOW", mail.latest(0, 10), 6);
        Check.same("that year has gone by", mail.latest(0, 9), -1);
        Check.same("in a year gone by", mail.latest(0, 5), -1);
        Check.same("out NOW", mail.latest(0, 6), -1);
    }

    private static void latestInTime() {
        GlacierMail mail = two(";person 0 0;person 1 0;person 0 19");
        Check.same("four years", mail.latest(0, 100), 96);
        Check.same("one year", mail.latest(2, 100), 99);
        Check.same("never", mail.latest(1, 299), -1);
        Check.same("too soon", mail.latest(0, 3), -1);
        Check.same("in the last year", mail.latest(2, 299), 298);
        Check.same("year 0", mail.latest(2, 0), -1);
        Check.law(mail, "slow 5 if year > 10");
        Check.same("ahead of it, as later ones stand", mail.latest(2, 299), 10);
        Check.same("by four years of flow", mail.latest(0, 299), 7);
    }

    private static void hutYears() {
        GlacierMail mail = two("");
        Check.argument("0", () -> mail.hut(0, 0));
        Check.argument("-1", () -> mail.hut(0, -1));
        Check.argument("300", () -> mail.hut(0, 300));
        Check.argument("far", () -> mail.hut(0, Integer.MAX_VALUE));
        Check.same("1", mail.hut(0, 1), 15);
        Check.same("299", mail.hut(0, 299), 0);
    }

    private static void hutRow() {
        GlacierMail mail = two("");
        Check.same("within 2: just 2 years from 10", mail.hut(0, 2), 10);
        Check.same("within 3", mail.hut(0, 3), 5);
        Check.same("within 4", mail.hut(0, 4), 0);
        Check.same("within 5", mail.hut(0, 5), 0);
        Check.same("none", mail.hut(1, 299), -1);
        Check.same("row 0 is one", Check.told("lanes 1;last 10;section 0 10").hut(0, 1), 0);
        WayWords.laterBy(mail, 296);
        Check.same("thrown in NOW: three years are left", mail.hut(0, 299), 5);
        mail.years(2);
        Check.same("one", mail.hut(0, 299), 15);
        mail.years(1);
        Check.same("none", mail.hut(0, 299), -1);
    }

    private static void without() {
        // 0 5 19 (by 10 and 9), out in 3; without: 0 5 10 15 20
        GlacierMail mail = two(";flood 1 8 9;flood 1 19 1;rock 0 0;rock 1 0;rock 0 15");
        Check.same("with both: 5, 19 and 20", mail.letter(0, 7), 2);
        Check.same("without the first", mail.without(0, 0), 4);
        Check.same("without the second: 19 is not yet out", mail.without(0, 1), 3);
        Check.same("never", mail.without(1, 0), -1);
        Check.same("one that is out by then", mail.without(2, 0), 1);
        GlacierMail only = Check.told("lanes 1;last 20;section 0 0;flood 298 0 1;flood 299 0 20;rock 0 19");
        Check.same("by a flood alone", only.letter(0, 7), 299);
        Check.same("none without it", only.without(0, 0), -1);
        Check.same("in the last year without the other", only.without(0, 1), 299);
        // one flood that were not is no less one of those of other numbers
        GlacierMail many = Check.told("lanes 1;last 20;section 0 0;flood 0 0 20;flood 1 0 20;rock 0 0");
        Check.same("the other brings it out", many.without(0, 0), 2);
        Check.same("the first does already", many.without(0, 1), 1);
    }

    private static void moved() {
        GlacierMail mail = two(";flood 1 0 20;flood 1 19 5;flood 2 0 7;flood 9 0 1;rock 0 0;rock 0 15;rock 1 0");
        Check.same("5, 30, 35: beyond the LIP, too", mail.moved(0), 25);
        Check.same("out ahead of all floods", mail.moved(1), 0);
        Check.same("0, 20, 25: where nothing flows", mail.moved(2), 25);
        GlacierMail none = two(";rock 0 0");
        Check.same("no flood", none.moved(0), 0);
        GlacierMail lip = Check.told("lanes 1;last 20;section 0 20;flood 0 19 3;flood 1 0 3;rock 0 0");
        Check.same("by the flow at the LIP, then by the flood beyond it, and no more when out", lip.moved(0), 3);
        GlacierMail most = Check.told("lanes 1;last 99;" + Texts.times(8, "flood 0 0 20") + ";rock 0 0");
        Check.same("all eight", most.moved(0), 160);
    }

    private static void lost() {
        Check.same("of none", new GlacierMail().lost(), 0);
        GlacierMail mail = two(";person 1 0;person 0 0;rock 1 0;rock 0 0;rock 1 19");
        mail.post(0, 1);
        mail.post(1, 0);
        Check.same("rocks 0 and 2, letter 3", mail.lost(), 1 + 4 + 8);
        GlacierMail all = Texts.told("person 0 0;person 0 0", Texts.times(12, "rock 0 0"), Texts.times(11, "rock 0 0"));
        all.post(0, 1);
        Check.same("24 bits", all.lost(), (1 << 24) - 1);
        Check.law(all, "fast 1 if year > 259");
        Check.same("out in the last year is not lost", all.lost(), (1 << 24) - 1);
        Check.law(all, "fast 1 if year > 258");
        Check.same("40 rows by the begin of 299", all.lost(), 0);
    }

    private static void market() {
        GlacierMail none = two(";rock 0 19;rock 0 19");
        Check.same("none: the year", none.market(false), -1);
        Check.same("none: how many", none.market(true), 0);
        GlacierMail mail = two(";person 0 15;person 0 10;rock 0 5;rock 0 5;rock 0 5;person 1 0");
        mail.post(2, 0);
        Check.same("one that is lost", mail.market(false), -1);
        mail.post(1, 0);
        Check.same("one in year 2", mail.market(false), 2);
        mail.post(0, 1);
        Check.same("one in 1, one in 2: the first", mail.market(false), 1);
        Check.same("how many", mail.market(true), 1);
        mail.post(1, 0);
        Check.same("two in 2, rocks in 3 do not count", mail.market(false), 2);
        Check.same("how many", mail.market(true), 2);
        mail.post(0, 1);
        Check.same("two in 1, two in 2: the first", mail.market(false), 1);
        mail.years(50);
        Check.same("years gone by, too", mail.market(true), 2);
        GlacierMail first = two(";person 0 15;person 0 10");
        first.post(0, 1);
        Check.same("letter 0 alone", first.market(false) * 10 + first.market(true), 11);
    }

    private static void passes() {
        // a rock at 0 goes to 9 (past 1 and 2), while those stand
        GlacierMail mail = Check.told("lanes 2;last 40;section 0 9 9;section 1 0 0;person 0 2;person 0 0;"
                + "rock 0 0;rock 0 1;rock 1 2;rock 0 30");
        mail.post(0, 1);
        Check.same("a rock and a letter, not what lies further on, or in the other lane", mail.passes(0), 2);
        Check.same("nor itself", mail.passes(1), 0);
        mail.post(1, 0);
        Check.same("a letter passes, too", mail.passes(5), 2);
        Check.same("what goes along with it is not passed", mail.passes(0), 2);
        GlacierMail all = Texts.told("last 40;section 0 9 9 9;section 1 0 0 0;rock 0 0", Texts.times(12, "rock 0 1"),
                Texts.times(11, "rock 0 2"));
        Check.same("all others", all.passes(0), 23);
        mail.years(20);
        Check.same("as it was, when all that has gone by", mail.passes(0), 2);
        Check.same("letter 0 is passed, too", Check.told("last 40;section 0 9 9 9;section 1 0 0 0;rock 0 1;rock 0 0")
                .passes(1), 1);
    }

    private static void passesFirst() {
        String valley = "lanes 1;last 40;section 0 9;section 1 0;section 9 9;section 10 1;";
        // 0, 9, 18, 19 ..; 5 stands
        Check.same("behind at first", Check.told(valley + "rock 0 0;rock 0 5").passes(0), 1);
        Check.same("at one row at first", Check.told(valley + "rock 0 5;rock 0 5").passes(0), 0);
        Check.same("ahead at first", Check.told(valley + "rock 0 9;rock 0 5").passes(0), 0);
        // the first year of both is that of the later one: the rock is at 9 in year 1, at 18 in year 2
        GlacierMail mail = Check.told(valley + "rock 0 0;person 0 8;person 0 20");
        mail.years(1);
        mail.post(0, 1);
        mail.post(1, 0);
        Check.same("8 and 9 in year 1: the rock is ahead already", mail.passes(0), 0);
        mail.years(1);
        mail.post(1, 0);
        Check.same("20 and 18 in year 2: no more than 1 a year", mail.passes(0), 0);
        // one is out in the first year of both
        GlacierMail out = Check.told("lanes 1;last 10;section 0 5;rock 0 5;person 0 0;person 0 9");
        out.years(1);
        out.post(0, 1);
        Check.same("the other is out by then", out.passes(1), 0);
        Check.same("it is out by then", out.passes(0), 0);
    }

    private static void passesLater() {
        // 0 goes 9 a year up to row 8, what is at 4 goes by the law
        GlacierMail mail = Check.told("lanes 1;last 20;rock 0 0;rock 0 4");
        Check.law(mail, "fast 4 if row < 1");
        Check.same("just as far is not passed", mail.passes(0), 0);
        Check.law(mail, "fast 5 if row < 1");
        Check.same("one more is", mail.passes(0), 1);
        Check.law(mail, "fast 20 if row < 1");
        Check.same("out at once is not", mail.passes(0), 0);
        Check.law(mail, "fast 5 if row < 1;fast 16 if row > 3 and row < 5");
        Check.same("the other is out by then", mail.passes(0), 0);
        Check.law(mail, "fast 5 if row < 1 and year > 297");
        Check.same("by the last year", mail.passes(0), 1);
        Check.law(mail, "fast 5 if row < 1 and year > 298");
        Check.same("behind the last year", mail.passes(0), 0);
        Check.law(mail, "fast 5 if row < 1;fast 3 if row > 3 and row < 5 and year > 0");
        Check.same("passed, though it is ahead again", mail.passes(0), 1);
        Check.same("and so passes", mail.passes(1), 0);
    }

    private static void writersOf() {
        // thrown in at 15: out a year later, 0 deep; at 0: 9 deep a year later, less three heats
        GlacierMail mail = two(";snow 5 fall 9;person 0 0;person 0 15;person 1 15");
        Check.same("out in 1", mail.writers(0, 1, 0), 2);
        Check.same("in just that year: thrown in in 3, 9 less 1 7 0", mail.writers(0, 7, 1), 1);
        Check.same("so deep", mail.wrote(0, 0, 7, 1), 3);
        Check.same("not deeper", mail.writers(0, 7, 2), 0);
        Check.same("not less deep", mail.writers(0, 7, 0), 2);
        Check.same("not a year later: heats 7 0 9", mail.writers(0, 8, 1), 0);
        Check.same("not in that lane", mail.writers(1, 7, 0), 0);
        Check.same("deepest", mail.writers(0, 7, 99), 0);
        GlacierMail deep = Check.told("lanes 1;last 10;snow 9 fall 9;person 0 0");
        Check.law(deep, "fast 20 if year > 19");
        Check.same("99 deep", deep.writers(0, 21, 99), 1);
        Check.same("the greatest such year", deep.wrote(0, 0, 21, 99), 10);
        Check.same("a year less", deep.wrote(0, 0, 21, 90), 11);
    }

    private static void writersFrom0() {
        GlacierMail mail = two(";snow 0 fall 0;person 0 0;person 0 15;person 0 19;person 1 0");
        Check.same("none by year 0", mail.writers(0, 0, 0), 0);
        Check.same("thrown in in year 0", mail.writers(0, 1, 0), 2 + 4);
        Check.same("thrown in in year 0 at 0, too", mail.writers(0, 4, 0), 1 + 2 + 4);
        Check.same("not ahead of year 0", mail.writers(0, 3, 0), 2 + 4);
        mail.years(50);
        Check.same("years gone by, too", mail.wrote(0, 0, 4, 0), 0);
        Check.same("and years to come", mail.wrote(1, 0, 299, 0), 298);
        GlacierMail eight = Check.told("last 10;section 0 9 9 9;" + Texts.times(8, "person 0 1"));
        Check.same("all eight, as bits (2 deep by a year of snow)", eight.writers(0, 1, 2), 255);
        Check.same("none", new GlacierMail().writers(0, 1, 0), 0);
    }

    private static void wroteGreatest() {
        // what is thrown in stands till year 9, then all is out
        GlacierMail mail = Check.told("lanes 2;last 10;snow 0 fall 0;person 0 0;person 1 0");
        Check.law(mail, "fast 20 if year > 8");
        Check.same("of ten years the greatest", mail.wrote(0, 0, 10, 0), 9);
        Check.same("of one", mail.wrote(0, 0, 11, 0), 10);
        Check.same("none", mail.wrote(0, 0, 9, 0), -1);
        Check.same("none in another lane", mail.wrote(0, 1, 10, 0), -1);
        Check.same("none in a lane without a hut", mail.wrote(1, 0, 10, 0), -1);
        Check.same("none so deep", mail.wrote(0, 0, 10, 1), -1);
    }
}
