/** The part headed ==== 2.: THE WAY, what is BARE, a YEAR more, the ACTS, and THE LOG. */
final class WayWords {
    private WayWords() {
    }

    static void all() {
        Doc.says(Doc.WAY, "THE WAY of what is thrown in at a LANE and a ROW in a YEAR: each YEAR, from that one on:",
                WayWords::fromThatYearOn);
        Doc.says(Doc.WAY, "ROW is FLOW there in that YEAR more;", WayWords::flowThere);
        Doc.says(Doc.WAY, "then, for each FLOOD of that YEAR,", WayWords::floodOfThatYear);
        Doc.says(Doc.WAY, "by numbers,", WayWords::floodsByNumbers);
        Doc.says(Doc.WAY, "if it is at the FLOOD's ROW or behind it (a greater ROW): N more;", WayWords::floodRow);
        Doc.says(Doc.WAY, "DEEP is (by the ROW as it was at the begin of the YEAR):", WayWords::deepByTheBegin);
        Doc.says(Doc.WAY, "above SNOW FALL more (99 at most),", WayWords::ninetyNineAtMost);
        Doc.says(Doc.WAY, "else HEAT of the YEAR less (0 at least;", WayWords::noughtAtLeast);
        Doc.says(Doc.WAY, "a ROCK is 0 deep ever).", WayWords::rockDeep);
        Doc.says(Doc.WAY, "Where it is in a YEAR: at its begin.", WayWords::atTheBegin);
        Doc.says(Doc.WAY, "It is OUT in the first YEAR at the begin of which ROW is LAST at least (ROW then: LAST);",
                WayWords::out);
        Doc.says(Doc.WAY, "none, if not by YEAR 299.", WayWords::notBy299);
        Doc.says(Doc.WAY, "BARE in a YEAR: what is 0 deep at its begin, was thrown in ahead of it, and is not OUT"
                + " (ROCKS, too).", WayWords::bare);
        Doc.says(Doc.WAY, "All WAYS are by what is told now, also for YEARS gone by.", WayWords::byWhatIsToldNow);
        Doc.says(Doc.WAY, "A YEAR more (ACT): NOW is 1 more (299 at most).", WayWords::aYearMore);
        Doc.says(Doc.WAY, "All LETTERS that are OUT by NOW and not OPENED, by numbers:", WayWords::outAndNotOpened);
        Doc.says(Doc.WAY, "by whom it is to, if that one WATCHES its LANE;", WayWords::byWhomItIsTo);
        Doc.says(Doc.WAY, "else by the first PERSON, by numbers, who WATCHES that LANE and may (OPEN);", WayWords::firstWhoMay);
        Doc.says(Doc.WAY, "else it waits.", WayWords::waits);
        Doc.says(Doc.WAY, "ACTS: a LETTER is thrown in by a PERSON at the HUT, to another one, NOW;", WayWords::throwing);
        Doc.says(Doc.WAY, "one WATCHES another LANE, or none;", WayWords::watching);
        Doc.says(Doc.WAY, "a LETTER that waits is opened by the one it is to, whatever LANE", WayWords::opening);
        Doc.says(Doc.WAY, "(each also if it changes nothing).", WayWords::changesNothing);
        Doc.says(Doc.WAY, "THE LOG: all OPENINGS (at most 24): YEAR, the LETTER, by whom.", WayWords::log);
    }

    /** A valley of one lane with 40 rows, two people who may write to one another (not in the way), and more lines. */
    private static GlacierMail lane(String lines) {
        return Check.told("lanes 1;last 40;person 0 0;person 0 0" + lines);
    }

    private static String rows(GlacierMail mail, int letter, int from, int to) {
        StringBuilder rows = new StringBuilder();
        for (int year = from; year <= to; year++) {
            rows.append(year > from ? " " : "").append(mail.where(letter, year));
        }
        return rows.toString();
    }

    private static String depths(GlacierMail mail, int letter, int from, int to) {
        StringBuilder depths = new StringBuilder();
        for (int year = from; year <= to; year++) {
            depths.append(year > from ? " " : "").append(mail.deep(letter, year));
        }
        return depths.toString();
    }

    static void laterBy(GlacierMail mail, int years) {
        for (int left = years; left > 0; left -= 50) {
            mail.years(Math.min(left, 50));
        }
    }

    private static void fromThatYearOn() {
        GlacierMail mail = lane(";section 0 3;flood 2 0 5;flood 1 0 7");
        mail.years(2);
        mail.post(0, 1);
        Check.same("the year of the throw is the first (its flood too), none ahead", rows(mail, 0, 0, 4), "-1 -1 0 8 11");
        GlacierMail first = lane(";section 0 3;flood 0 0 5;rock 0 1");
        Check.same("from year 0 on", rows(first, 0, 0, 2), "1 9 12");
    }

    private static void flowThere() {
        GlacierMail mail = Check.told("lanes 2;last 40;section 0 1 9;section 4 5 9;section 14 2 9;rock 0 3");
        Check.same("by the row at which it is", rows(mail, 0, 0, 4), "3 4 9 14 16");
        Check.law(mail, "fast 2 if year > 1 and year < 3;slow 1 if row > 14;fast 9 if lane > 0");
        Check.same("by the year and the row", rows(mail, 0, 0, 5), "3 4 9 16 17 18");
    }

    private static void floodOfThatYear() {
        GlacierMail mail = lane(";flood 3 0 5;flood 3 0 2;flood 5 0 1;rock 0 0");
        Check.same("each of its own year", rows(mail, 0, 0, 7), "0 0 0 0 7 7 8 8");
        GlacierMail all = lane(";" + Texts.times(8, "flood 299 0 1") + ";rock 0 0");
        Check.same("year 299 is told at its begin", all.where(0, 299), 0);
        Check.same("all eight", lane(";" + Texts.times(8, "flood 0 0 1") + ";rock 0 0").where(0, 1), 8);
    }

    private static void floodsByNumbers() {
        Check.same("the first brings it to the second", lane(";flood 0 5 3;flood 0 8 2;rock 0 5").where(0, 1), 10);
        Check.same("but not the second to the first", lane(";flood 0 8 2;flood 0 5 3;rock 0 5").where(0, 1), 8);
        Check.same("also when told in two texts",
                Texts.told("flood 0 8 2;rock 0 5", "flood 0 5 3").where(0, 1), 8);
    }

    private static void floodRow() {
        // by the flow to 9, 10 and 11
        GlacierMail mail = lane(";section 0 4;flood 0 10 20;rock 0 5;rock 0 6;rock 0 7");
        Check.same("ahead of it", mail.where(0, 1), 9);
        Check.same("just at it", mail.where(1, 1), 30);
        Check.same("behind it", mail.where(2, 1), 31);
        // the row at the begin of the year tells nothing
        GlacierMail begin = lane(";section 0 0;flood 0 10 20;rock 0 9;rock 0 10");
        Check.same("ahead, without a flow", begin.where(0, 1), 9);
        Check.same("at it, without a flow", begin.where(1, 1), 30);
        Check.same("from row 0 on", lane(";flood 0 0 1;rock 0 0").where(0, 1), 1);
        Check.same("at the last row", lane(";flood 0 39 1;rock 0 39").where(0, 1), 40);
    }

    private static void deepByTheBegin() {
        // at 9 it snows, and it goes to 15; there the heat of year 1 (8) is less
        GlacierMail mail = lane(";section 0 6;snow 10 fall 9;person 0 9;person 0 4");
        mail.post(2, 0);
        Check.same("snow at the row of the begin", depths(mail, 0, 0, 3), "0 9 1 0");
        mail.post(3, 0);
        // 4, 10: at 10 it does not snow
        Check.same("no snow at SNOW itself", depths(mail, 1, 0, 2), "0 9 1");
    }

    private static void ninetyNineAtMost() {
        GlacierMail nine = lane(";snow 1 fall 9");
        nine.post(0, 1);
        Check.same("99 by eleven years", depths(nine, 0, 10, 13), "90 99 99 99");
        GlacierMail two = lane("");
        two.post(0, 1);
        Check.same("98, then 99, not 100", depths(two, 0, 48, 51), "96 98 99 99");
        GlacierMail one = lane(";snow 1 fall 1");
        one.post(0, 1);
        Check.same("99 by ones", depths(one, 0, 97, 101), "97 98 99 99 99");
        GlacierMail none = lane(";snow 1 fall 0");
        none.post(0, 1);
        Check.same("no fall, and no heat either", none.deep(0, 299), 0);
    }

    private static void noughtAtLeast() {
        // in year 0 to row 5, 9 deep; heats from year 1 on: 8 3
        GlacierMail mail = lane(";section 0 5;section 5 0;snow 5 fall 9");
        mail.post(0, 1);
        Check.same("9 less 8, then not less than 0", depths(mail, 0, 0, 4), "0 9 1 0 0");
        GlacierMail even = lane(";section 0 5;section 5 0;snow 5 fall 8");
        even.post(0, 1);
        Check.same("8 less 8", depths(even, 0, 0, 3), "0 8 0 0");
        // heats of years 5, 6, 7: 7 0 9
        even.years(5);
        even.post(0, 1);
        Check.same("less by no heat", depths(even, 1, 5, 8), "0 8 8 0");
    }

    private static void rockDeep() {
        GlacierMail mail = lane(";section 0 5;section 5 1;snow 20 fall 9;rock 0 0");
        Check.same("in snow and heat", depths(mail, 0, 0, 12), "0 0 0 0 0 0 0 0 0 0 0 0 0");
        Check.same("when out", mail.letter(0, 8), 0);
        Check.same("in the last year", mail.deep(0, 299), 0);
    }

    private static void atTheBegin() {
        GlacierMail mail = lane(";section 0 6;flood 0 0 3;rock 0 4");
        Check.same("where it was thrown in", mail.where(0, 0), 4);
        Check.same("a year on", mail.where(0, 1), 13);
        GlacierMail last = lane(";rock 0 4");
        Check.law(last, "fast 1 if year > 297");
        Check.same("the flow of 298", last.where(0, 299), 5);
        Check.law(last, "fast 1 if year > 298");
        Check.same("the flow of 299 is never seen", last.where(0, 299), 4);
    }

    private static void out() {
        // 39, 40, 41 by the flow
        GlacierMail mail = lane(";section 0 5;section 39 0;rock 0 34;rock 0 35;rock 0 36;rock 0 39");
        Check.same("one ahead", mail.letter(0, 7), -1);
        Check.same("just at the LIP", mail.letter(1, 7), 1);
        Check.same("beyond", mail.letter(2, 7), 1);
        Check.same("its row", rows(mail, 1, 0, 3), "35 40 40 40");
        Check.same("LAST, too", rows(mail, 2, 0, 3), "36 40 40 40");
        Check.same("the last row is not the LIP", rows(mail, 3, 298, 299), "39 39");
        // what would be beyond by a flood is at LAST, too, and goes on no more
        GlacierMail flood = lane(";section 0 1;flood 3 0 20;flood 4 0 20;rock 0 30");
        Check.same("30 31 32 33 54", rows(flood, 0, 2, 6), "32 33 40 40 40");
        Check.same("the first year, not a later one", flood.letter(0, 7), 4);
        Check.same("moved no more when out", flood.moved(0), 20);
    }

    private static void notBy299() {
        GlacierMail mail = lane(";rock 0 39;rock 0 38");
        Check.law(mail, "fast 1 if year > 297");
        Check.same("at the begin of 299", mail.letter(0, 7), 299);
        Check.same("where in 299", mail.where(0, 299), 40);
        Check.same("not by the begin of 299", mail.letter(1, 7), -1);
        Check.same("where in 299, then", mail.where(1, 299), 39);
        Check.same("lost", mail.lost(), 2);
        GlacierMail late = lane(";section 0 20;person 0 39");
        laterBy(late, 298);
        late.post(2, 0);
        late.years(1);
        late.post(2, 0);
        Check.same("thrown in in 298", late.letter(0, 7), 299);
        Check.same("thrown in in 299", late.letter(1, 7), -1);
    }

    private static void bare() {
        // rows of letter 0: 0 20 40; a rock at 0; heats 8 8; no snow: 0 deep ever
        GlacierMail mail = lane(";section 0 20;snow 0 fall 0;person 0 1;rock 0 0");
        mail.post(2, 0);
        Check.same("not in the year of the throw", mail.bare(0), 0);
        Check.same("a year on: both", mail.bare(1), 3);
        Check.same("not when out", mail.bare(2), 0);
        Check.same("nor later", mail.bare(299), 0);
        Check.same("the first year of it", mail.letter(0, 9) * 10 + mail.letter(1, 9), 11);
        // 9 deep in 1, 1 in 2, 0 in 3
        GlacierMail deep = lane(";section 0 5;section 5 0;snow 5 fall 9");
        deep.post(0, 1);
        Check.same("9 deep", deep.bare(1), 0);
        Check.same("1 deep", deep.bare(2), 0);
        Check.same("0 deep", deep.bare(3), 1);
        Check.same("in the last year", deep.bare(299), 1);
        Check.same("the first", deep.letter(0, 9), 3);
        // out as soon as it would be bare
        GlacierMail lip = lane(";section 0 20;snow 1 fall 8");
        lip.post(0, 1);
        Check.same("0 deep at the LIP", lip.letter(0, 8), 0);
        Check.same("is not bare", lip.letter(0, 9), -1);
        laterBy(deep, 299);
        deep.post(0, 1);
        Check.same("thrown in in 299, there is no later year", deep.letter(1, 9), -1);
        Check.same("as bits", deep.bare(299), 1);
        GlacierMail late = lane(";snow 0 fall 0");
        laterBy(late, 298);
        late.post(0, 1);
        Check.same("thrown in in 298", late.letter(0, 9), 299);
        late.years(1);
        late.post(0, 1);
        Check.same("0 deep and thrown in in 299", late.letter(1, 9), -1);
    }

    private static void byWhatIsToldNow() {
        GlacierMail mail = lane(";rock 0 0");
        mail.years(5);
        Check.same("without a section", rows(mail, 0, 0, 5), "0 0 0 0 0 0");
        Check.valley(mail, "section 0 1");
        Check.same("by a section", rows(mail, 0, 0, 5), "0 1 2 3 4 5");
        Check.valley(mail, "section 2 5");
        Check.same("by two", rows(mail, 0, 0, 5), "0 1 2 7 12 17");
        Check.law(mail, "fast 1 if year < 2");
        Check.same("by a law", rows(mail, 0, 0, 5), "0 2 8 13 18 23");
        Check.law(mail, "");
        Check.same("by another", rows(mail, 0, 0, 5), "0 1 2 7 12 17");
        Check.valley(mail, "flood 5 0 20");
        Check.same("out by a flood of NOW: 17, 22, 42", mail.letter(0, 7), 6);
        GlacierMail snow = lane("");
        snow.post(0, 1);
        snow.years(5);
        Check.same("deep by the snow of now", snow.deep(0, 3), 6);
        Check.valley(snow, "snow 1 fall 3");
        Check.same("by another fall", snow.deep(0, 3), 9);
        Check.valley(snow, "snow 0 fall 3");
        Check.same("by no snow", snow.deep(0, 3), 0);
        GlacierMail heat = lane(";section 0 5;section 5 0;snow 5 fall 9;seed 1");
        heat.post(0, 1);
        heat.years(3);
        Check.same("by heat 8", heat.deep(0, 2), 1);
        Check.valley(heat, "seed 0");
        Check.same("by another seed", heat.deep(0, 2), 9 - heat.heat(1));
    }

    private static void aYearMore() {
        GlacierMail mail = new GlacierMail();
        mail.years(1);
        Check.same("1 more", mail.count(9), 1);
        mail.years(2);
        Check.same("2 more", mail.count(9), 3);
        Check.same("an act", mail.count(17), 2);
        laterBy(mail, 295);
        Check.same("NOW", mail.count(9), 298);
        Check.argument("to 300", () -> mail.years(2));
        Check.same("to 299", mail.years(1), 0);
        Check.same("NOW", mail.count(9), 299);
        Check.argument("beyond", () -> mail.years(1));
        Check.same("NOW stays", mail.count(9), 299);
    }

    private static void outAndNotOpened() {
        // letter 0 is out in 3, letter 1 in 2, letter 2 in 3: person 0 watches
        GlacierMail mail = Check.told("lanes 1;last 15;section 0 5;person 0 5 watch 0;person 0 0;person 0 5");
        mail.post(1, 0);
        mail.post(2, 0);
        mail.post(1, 0);
        Check.same("not out yet", mail.years(1), 0);
        Check.same("out by NOW", mail.years(1), 1);
        Check.same("its year", mail.letter(1, 6), 2);
        Check.same("both others in their year, not the one opened", mail.years(1), 2);
        Check.same("by numbers", mail.log(1, 1) * 10 + mail.log(2, 1), 2);
        Check.same("none is left", mail.years(50), 0);
        Check.same("three in all", mail.count(14), 3);
        // out for years before one may open
        GlacierMail late = Check.told("lanes 1;last 15;section 0 5;person 0 5;person 0 0");
        late.post(1, 0);
        late.post(0, 1);
        late.post(1, 0);
        late.years(9);
        late.open(2);
        late.watch(0, 0);
        late.watch(1, 0);
        Check.same("by numbers, not by the year in which they are out", late.years(1), 2);
        Check.same("the first", late.log(1, 1), 0);
        Check.same("the second", late.log(2, 1), 1);
    }

    private static void byWhomItIsTo() {
        GlacierMail mail = Check.told("lanes 2;last 10;section 0 9 9;person 0 5 watch 0;person 0 5 watch 0;person 0 5");
        Check.law(mail, "open if person < 1");
        mail.post(2, 1);
        mail.post(2, 0);
        Check.same("whom it is to, without having to be allowed, ahead of the first who may", mail.years(1), 2);
        Check.same("letter 0", mail.letter(0, 5), 1);
        Check.same("letter 1", mail.letter(1, 5), 0);
        mail.watch(1, 1);
        mail.post(2, 1);
        Check.same("who watches another lane", mail.years(1), 1);
        Check.same("opens not", mail.letter(2, 5), 0);
    }

    private static void firstWhoMay() {
        GlacierMail mail = Check.told("lanes 2;last 10;section 0 9 9;person 0 5;person 0 5 watch 1;person 0 5 watch 0;"
                + "person 0 5 watch 0;person 0 5 watch 0;person 0 5");
        Check.law(mail, "open if not person < 3");
        mail.post(0, 5);
        Check.same("opened", mail.years(1), 1);
        Check.same("not 1 (another lane), not 2 (may not), not 4 (a greater number)", mail.letter(0, 5), 3);
        Check.law(mail, "open if person > 3");
        mail.post(0, 5);
        mail.years(1);
        Check.same("the last of all", mail.letter(1, 5), 4);
        Check.law(mail, "open");
        mail.watch(0, 0);
        mail.post(0, 5);
        mail.years(1);
        Check.same("who threw it in, too", mail.letter(2, 5), 0);
    }

    private static void waits() {
        GlacierMail mail = Check.told("lanes 2;last 10;section 0 9 9;person 0 5 watch 1;person 0 5 watch 0;person 0 5");
        Check.law(mail, "open if age > 3");
        mail.post(0, 2);
        Check.same("in the ice it does not wait", mail.count(15), 0);
        Check.same("nobody may", mail.years(3), 0);
        Check.same("it waits", mail.count(15), 1);
        Check.same("for whom it is to", mail.person(2, 5), 1);
        Check.same("for nobody else", mail.person(0, 5) + mail.person(1, 5), 0);
        Check.same("till one may", mail.years(1), 1);
        Check.same("it waits no more", mail.count(15), 0);
    }

    private static void throwing() {
        GlacierMail mail = Check.told("person 1 7;person 2 8 watch 0");
        mail.years(3);
        Check.same("the first", mail.post(0, 1), 0);
        Check.same("the next", mail.post(1, 0), 1);
        int[][] due = {{0, 1, 1, 3, 7, -1, -1}, {1, 0, 2, 3, 8, -1, -1}};
        for (int letter = 0; letter < 2; letter++) {
            for (int what = 0; what < 7; what++) {
                Check.same("letter " + letter + " what " + what, mail.letter(letter, what), due[letter][what]);
            }
        }
        Check.argument("to that one", () -> mail.post(1, 1));
        Check.same("acts", mail.count(17), 3);
    }

    private static void watching() {
        GlacierMail mail = Check.told("person 1 7;person 2 8 watch 0");
        Check.same("it was none", mail.watch(0, 2), -1);
        Check.same("now", mail.person(0, 2), 2);
        Check.same("it was 0", mail.watch(1, -1), 0);
        Check.same("none", mail.person(1, 2), -1);
        Check.same("the lane 0", mail.watch(1, 0), -1);
        Check.same("the first again", mail.watch(0, 0), 2);
        Check.same("acts", mail.count(17), 4);
    }

    private static void opening() {
        GlacierMail mail = Check.told("lanes 2;last 10;section 0 3 9;person 0 5;person 1 5 watch 1");
        mail.years(4);
        int letter = mail.post(0, 1);
        mail.years(1);
        Check.state("in the ice", () -> mail.open(letter));
        mail.years(1);
        Check.same("out in lane 0, while one watches lane 1: years since", mail.open(letter), 2);
        Check.same("by whom it is to", mail.letter(letter, 5), 1);
        Check.same("in which year", mail.letter(letter, 6), 6);
        Check.same("in the log", mail.log(0, 0) * 100 + mail.log(0, 1) * 10 + mail.log(0, 2), 601);
        Check.state("opened", () -> mail.open(letter));
    }

    private static void changesNothing() {
        GlacierMail mail = Check.told("person 1 7;person 2 8 watch 0");
        Check.same("the same lane", mail.watch(1, 0), 0);
        Check.same("an act", mail.count(17), 1);
        Check.same("the same none", mail.watch(0, -1), -1);
        Check.same("acts", mail.count(17), 2);
        mail.years(1);
        Check.same("a year that opens nothing", mail.count(17), 3);
        Check.same("undone", mail.undo(), true);
        Check.same("undone", mail.undo(), true);
        Check.same("undone", mail.undo(), true);
        Check.same("no more", mail.undo(), false);
    }

    private static void log() {
        GlacierMail mail = Check.told("last 10;section 0 9 9 9;person 0 5 watch 0;person 0 5 watch 0");
        Check.same("none", mail.log(0, 0), -1);
        for (int i = 0; i < 12; i++) {
            mail.post(0, 1);
            mail.post(1, 0);
            Check.same("both of year " + (i + 1), mail.years(1), 2);
        }
        Check.same("24", mail.count(14), 24);
        for (int k = 0; k < 24; k++) {
            Check.same("year of " + k, mail.log(k, 0), k / 2 + 1);
            Check.same("letter of " + k, mail.log(k, 1), k);
            Check.same("by whom " + k, mail.log(k, 2), 1 - k % 2);
        }
        Check.same("no 25th", mail.log(24, 0), -1);
        Check.same("nor one below", mail.log(-1, 2), -1);
    }
}
