/** The part headed ==== 3., from POLES to STREAMS: tables, answers, thieves, the watchman, what comes out when. */
final class LipWords {
    private LipWords() {
    }

    static void all() {
        Doc.says(Doc.ASKING, "POLES: TABLES (at most 6, numbered from 0 on): of each LANE a SPEED (0 to 20).",
                LipWords::tables);
        Doc.says(Doc.ASKING, "A POLE at a LANE tells its SPEED.", LipWords::pole);
        Doc.says(Doc.ASKING, "TOLD APART: two TABLES by a set of LANES, if one of these has unlike SPEEDS.", LipWords::apart);
        Doc.says(Doc.ASKING, "FEWEST: LANES by which all TABLES are told apart: of several the least as bits; none.",
                LipWords::fewest);
        Doc.says(Doc.ASKING, "FIT: TABLES that fit readings (of LANES), as bits.", LipWords::fit);
        answers();
        Doc.says(Doc.ASKING, "THIEVES: one who watches one LANE each YEAR, from NOW on, N YEARS (1 to 30),",
                LipWords::thiefYears);
        Doc.says(Doc.ASKING, "and may go to the next LANE, or stay, from YEAR to YEAR:", LipWords::thiefGoes);
        Doc.says(Doc.ASKING, "the most LETTERS that one can take at the lip as they come OUT (OUT in that YEAR, in that LANE,"
                + " OPENED or not; ROCKS do not count);", LipWords::thiefTakes);
        Doc.says(Doc.ASKING, "the LANE where one begins (the least by which it can be so many).", LipWords::thiefBegins);
        Doc.says(Doc.ASKING, "WATCHMAN: a LANE that is guarded all these N YEARS,", LipWords::watchmanYears);
        Doc.says(Doc.ASKING, "so that what comes OUT in the best other LANE (one all the time) is the least:",
                LipWords::watchmanBest);
        Doc.says(Doc.ASKING, "the LANE (the least such); how many that are (0 with one LANE).", LipWords::watchmanLeast);
        Doc.says(Doc.ASKING, "MEETINGS: two LETTERS (ROCKS as well) of one LANE,", LipWords::meetingOfOneLane);
        Doc.says(Doc.ASKING, "at one ROW at the begin of a YEAR, both thrown in and in the ice:", LipWords::meetingInTheIce);
        Doc.says(Doc.ASKING, "the first such YEAR from NOW on (to 299); none.", LipWords::meetingYears);
        Doc.says(Doc.ASKING, "ORDER: the k-th of all (ROCKS, too) that are OUT some time, by that YEAR, then by number.",
                LipWords::order);
        Doc.says(Doc.ASKING, "STREAMS: how many (ROCKS, too) are OUT by a YEAR in LANES of the first stream; of the second.",
                LipWords::streams);
        Doc.says(Doc.ASKING, "RANGE of a LANE: YEARS from ROW 0 to the LIP, thrown in in a YEAR: how many; none.",
                LipWords::range);
    }

    private static void answers() {
        Doc.says(Doc.ASKING, "ANSWERS: what is thrown in at a HUT is had, in the YEAR in which it is OUT, by all who WATCH its"
                + " LANE now;", LipWords::had);
        Doc.says(Doc.ASKING, "each of these throws it in again at the own HUT, just a YEAR later (299 at most).",
                LipWords::again);
        Doc.says(Doc.ASKING, "SOONEST from a PERSON, who throws it in NOW, to another one: the least YEAR in which that one has"
                + " it;", LipWords::soonest);
        Doc.says(Doc.ASKING, "by how many throws (the fewest by which it is as soon); none.", LipWords::fewestThrows);
        Doc.says(Doc.ASKING, "CHAIN: who has it by the k-th of these throws (0: who throws first; at the end the other one),",
                LipWords::chain);
        Doc.says(Doc.ASKING, "in the first such way (from the end on: each time the one of the least number who can have"
                + " thrown it in, with one throw fewer, and of several YEARS the first).", LipWords::firstWay);
        Doc.says(Doc.ASKING, "REACHED from a PERSON by a YEAR: all who have it by then, as bits, that one, too.",
                LipWords::reached);
    }

    private static void tables() {
        GlacierMail mail = Check.told(Texts.times(5, "table 1 2 3") + ";table 0 20 7");
        Check.same("six", mail.count(6), 6);
        Check.same("the first", mail.table(0, 2), 3);
        Check.same("the least speed", mail.table(5, 0), 0);
        Check.same("the greatest speed", mail.table(5, 1), 20);
        Check.index("table 6", () -> mail.table(6, 0));
        Check.wrongValley(mail, "table 1 2 3", 0);
        Texts.wrong(Texts.times(7, "table 1 2 3"), 6 * 12);
        Texts.bounds("table ", " 0 0", 0, 20);
    }

    private static void pole() {
        GlacierMail mail = Check.told("lanes 6;table 1 2 3 4 5 6;table 6 5 4 3 2 1");
        for (int lane = 0; lane < 6; lane++) {
            Check.same("lane " + lane, mail.table(0, lane) * 10 + mail.table(1, lane), (lane + 1) * 10 + 6 - lane);
        }
    }

    private static void apart() {
        GlacierMail mail = Check.told("lanes 6;table 1 2 3 4 5 6;table 1 2 9 4 5 9");
        Check.same("by no lane", mail.apart(0, 1, 0), false);
        Check.same("by lanes of like speeds", mail.apart(0, 1, 1 + 2 + 8 + 16), false);
        Check.same("by one of unlike speeds", mail.apart(0, 1, 4), true);
        Check.same("by the last lane", mail.apart(0, 1, 32), true);
        Check.same("by one of several", mail.apart(0, 1, 1 + 4), true);
        Check.same("by all", mail.apart(1, 0, 63), true);
        Check.same("one and itself", mail.apart(1, 1, 63), false);
    }

    private static void fewest() {
        Check.same("no table", new GlacierMail().poles(), 0);
        Check.same("one table", Check.told("table 1 1 1").poles(), 0);
        Check.same("two of like speeds: none", Check.told("table 1 1 1;table 1 1 1").poles(), -1);
        Check.same("of three two alike: none", Check.told("table 1 1 1;table 2 1 1;table 1 1 1").poles(), -1);
        Check.same("one lane is enough: the least", Check.told("table 1 1 1;table 2 2 2").poles(), 1);
        Check.same("a greater lane alone is fewer", Check.told("table 1 1 1;table 2 1 2;table 1 2 3").poles(), 4);
        Check.same("of three sets of two the least", Check.told("table 1 1 1;table 2 2 1;table 2 1 2;table 1 2 2").poles(), 3);
        Check.same("all three", Check.told("table 1 1 1;table 2 1 1;table 1 2 1;table 1 1 2").poles(), 7);
        Check.same("five of six lanes", Check.told("lanes 6;table 1 1 1 1 1 1;table 1 2 1 1 1 1;table 1 1 2 1 1 1;"
                + "table 1 1 1 2 1 1;table 1 1 1 1 2 1;table 1 1 1 1 1 2").poles(), 62);
        Check.same("one lane", Check.told("lanes 1;table 0;table 20").poles(), 1);
    }

    private static void fit() {
        GlacierMail mail = Check.told(Texts.times(5, "table 1 2 3") + ";table 0 20 3");
        Check.same("no reading: all", Check.fit(mail), 63);
        Check.same("one that all have", Check.fit(mail, 2, 3), 63);
        Check.same("one that the last has", Check.fit(mail, 0, 0), 32);
        Check.same("none has it", Check.fit(mail, 1, 19), 0);
        Check.same("each fits, but not one both", Check.fit(mail, 0, 0, 1, 2), 0);
        Check.same("twice", Check.fit(mail, 1, 20, 1, 20), 32);
        Check.same("no table", Check.fit(new GlacierMail(), 0, 0), 0);
    }

    /** 0 throws into lane 0 (2 years), which 1 and 2 watch; 1 into lane 1 (3 years), which 3 and 0 watch; 4 watches none. */
    private static GlacierMail people() {
        return Check.told("lanes 3;last 12;section 0 6 4 12;person 0 0 watch 1;person 1 0 watch 0;person 2 0 watch 0;"
                + "person 0 3 watch 1;person 1 0");
    }

    private static void had() {
        GlacierMail mail = people();
        Check.same("ahead of the year in which it is out", mail.reached(0, 1), 1);
        Check.same("in that year, by all who watch", mail.reached(0, 2), 1 + 2 + 4);
        mail.watch(1, 2);
        Check.same("by those who watch now", mail.reached(0, 2), 1 + 4);
        mail.watch(2, -1);
        Check.same("by none", mail.reached(0, 299), 1);
        mail.watch(0, 0);
        mail.watch(4, 0);
        Check.same("who threw it in may watch as well", mail.reached(0, 2), 1 + 16);
    }

    private static void again() {
        GlacierMail mail = people();
        // out in 2, thrown in again in 3 (not in 2), out in 6
        Check.same("not as soon as had", mail.soonest(0, 3, false), 6);
        Check.same("by 5", mail.reached(0, 5), 7);
        Check.same("by 6", mail.reached(0, 6), 15);
        WayWords.laterBy(mail, 293);
        Check.same("had in 295, thrown in in 296, out in 299", mail.soonest(0, 3, false), 299);
        mail.years(1);
        Check.same("too late", mail.soonest(0, 3, false), -1);
        mail.years(3);
        Check.same("had in 299", mail.soonest(0, 1, false), 299);
        Check.same("and no more", mail.reached(0, 299), 7);
        mail.years(2);
        Check.same("thrown in in 299", mail.reached(0, 299), 1);
        // each time that one has it: what is had later may be sooner
        GlacierMail late = Check.told("lanes 2;last 10;section 0 5 0;person 0 5 watch 0;person 1 0 watch 0;person 0 5 watch 1");
        Check.law(late, "fast 10 if lane > 0 and year > 5 and row < 1");
        // 0 and 1 have it in 1, 3, 5, 7 ..; 1 throws in 2, and it stands till 6, out in 7
        Check.same("to 2", late.soonest(0, 2, false), 7);
        Check.same("by two", late.soonest(0, 2, true), 2);
        Check.law(late, "fast 10 if lane > 0 and year > 5 and row < 1;fast 1 if lane > 0 and year < 5 and row < 1");
        // what is thrown in in 2 and 4 goes on by one, and stands; that of 6 is out in 7
        Check.same("by a later one", late.soonest(0, 2, false), 7);
        Check.same("by four: 1, 3, 5, 7", late.soonest(0, 2, true), 4);
    }

    private static void soonest() {
        GlacierMail mail = people();
        Check.same("by the first throw", mail.soonest(0, 1, false), 2);
        Check.same("by the second", mail.soonest(0, 3, false), 6);
        Check.same("never", mail.soonest(0, 4, false), -1);
        Check.same("not by one who throws where none watches", mail.soonest(2, 0, false), -1);
        mail.years(40);
        Check.same("NOW", mail.soonest(0, 1, false), 42);
        Check.argument("to oneself", () -> mail.soonest(3, 3, false));
        GlacierMail slow = Check.told("lanes 1;last 10;person 0 0;person 0 0 watch 0");
        Check.law(slow, "fast 10 if year > 297");
        Check.same("in the last year", slow.soonest(0, 1, false), 299);
        Check.law(slow, "fast 10 if year > 298");
        Check.same("behind it", slow.soonest(0, 1, false), -1);
    }

    private static void fewestThrows() {
        GlacierMail mail = people();
        Check.same("one", mail.soonest(0, 1, true), 1);
        Check.same("two", mail.soonest(0, 3, true), 2);
        Check.same("none", mail.soonest(0, 4, true), -1);
        // to 3 both by 4 (two throws), and by 1 and 2 (three)
        GlacierMail both = Check.told("lanes 4;last 12;section 0 12 12 12 4;person 0 0;person 1 0 watch 0;person 2 0 watch 1;"
                + "person 3 0 watch 2;person 2 0 watch 0");
        // 1 and 4 have it in 1; what 4 throws in is out in 3, what 1 throws in as well, and what 2 does in 5
        Check.same("by 4", both.soonest(0, 3, false), 3);
        Check.same("two", both.soonest(0, 3, true), 2);
        Check.law(both, "slow 12 if lane > 1 and lane < 3 and year < 4 and row < 1");
        // what 4 threw in stands till year 4, as what 2 threw in then: both are out in 5
        Check.same("by both", both.soonest(0, 3, false), 5);
        Check.same("the fewest", both.soonest(0, 3, true), 2);
    }

    private static void chain() {
        GlacierMail mail = people();
        same("two throws", mail, 3, 0, 1, 3, -1, -1);
        Check.same("0 of one throw", mail.chain(0, 2, 0), 0);
        Check.same("at the end", mail.chain(0, 2, 1), 2);
        Check.same("beyond", mail.chain(0, 2, 2), -1);
        Check.same("far beyond", mail.chain(0, 2, Integer.MAX_VALUE), -1);
        Check.same("without a way not even 0", mail.chain(0, 4, 0), -1);
        Check.argument("below", () -> mail.chain(0, 3, -1));
    }

    private static void firstWay() {
        // 2 and 3 have it in 1, and throw it in at one place
        GlacierMail least = Check.told("lanes 3;last 12;section 0 12 4 1;person 0 0;person 2 0 watch 0;person 1 0 watch 0;"
                + "person 1 0 watch 0;person 0 0 watch 1");
        Check.same("in 1 and 5", least.soonest(0, 4, false), 5);
        same("the least number", least, 4, 0, 2, 4, -1);
        // 3 has it in 3 of 2, and in 5 of 1: all stands in lane 2 till 6, so both are out in 7
        GlacierMail years = Check.told("lanes 3;last 12;section 0 12 4 0;person 0 0;person 1 0 watch 0;person 1 8 watch 0;"
                + "person 2 0 watch 1;person 0 0 watch 2");
        Check.law(years, "fast 12 if lane > 1 and year > 5");
        Check.same("in 7", years.soonest(0, 4, false), 7);
        same("of several years the first, so it is of 2", years, 4, 0, 2, 3, 4, -1);
        // 3 has it in 5 of 1, 4 in 3 of 2: all stands in lane 3 till 6, so both are out in 7
        GlacierMail number = Check.told("lanes 4;last 12;section 0 12 4 12 0;person 0 0;person 1 0 watch 0;person 2 0 watch 0;"
                + "person 3 0 watch 1;person 3 0 watch 2;person 0 0 watch 3");
        Check.law(number, "fast 12 if lane > 2 and year > 5");
        Check.same("in 7", number.soonest(0, 5, false), 7);
        same("the least number ahead of the first year", number, 5, 0, 1, 3, 5, -1);
        // 1 has it in 1 and (of itself) in 3, and all stands in lane 1 till 6: one throw fewer is that of 2
        GlacierMail fewer = Check.told("lanes 2;last 10;section 0 5 0;person 0 5 watch 0;person 1 0 watch 0;person 0 5 watch 1");
        Check.law(fewer, "fast 10 if lane > 0 and year > 5");
        Check.same("in 7", fewer.soonest(0, 2, false), 7);
        same("not by more throws", fewer, 2, 0, 1, 2, -1);
        // 1 throws into lane 1, which 0 watches, and 0 into lane 0, which 2 watches
        GlacierMail nought = Check.told("lanes 2;last 10;section 0 5 5;person 0 0 watch 1;person 1 0;person 0 0 watch 0");
        Check.same("by 0", nought.chain(1, 2, 0) * 100 + nought.chain(1, 2, 1) * 10 + nought.chain(1, 2, 2), 102);
        // 1 into lane 1, which 3 watches, 3 into lane 2, which 0 watches, 0 into lane 0, which 2 watches
        GlacierMail three = Check.told("lanes 3;last 10;section 0 5 5 5;person 0 0 watch 2;person 1 0;person 0 0 watch 0;"
                + "person 2 0 watch 1");
        int[] due = {1, 3, 0, 2, -1};
        for (int k = 0; k < due.length; k++) {
            Check.same("by 3 and 0: throw " + k, three.chain(1, 2, k), due[k]);
        }
    }

    /** CHAIN from person 0. */
    private static void same(String what, GlacierMail mail, int to, int... due) {
        for (int k = 0; k < due.length; k++) {
            Check.same(what + ": throw " + k, mail.chain(0, to, k), due[k]);
        }
    }

    private static void reached() {
        GlacierMail mail = people();
        Check.same("that one", mail.reached(4, 0), 16);
        Check.same("that one by the year of the throw", mail.reached(0, 0), 1);
        Check.same("just by that year", mail.reached(0, 2), 7);
        Check.same("by the last year", mail.reached(0, 299), 15);
        mail.years(10);
        Check.same("by a year gone by", mail.reached(0, 9), 1);
        Check.same("by 12", mail.reached(0, 12), 7);
        Check.same("all eight", Check.told("last 10;section 0 9 9 9;" + Texts.times(8, "person 0 1 watch 0"))
                .reached(7, 1), 255);
    }

    /** Letters that those people throw in now: each is out in its own lane, in year 1, 1, 2, 3, 4, 3. */
    private static GlacierMail lip(int... from) {
        GlacierMail mail = Check.told("lanes 6;last 60;section 0 2 2 2 2 2 2;person 0 58;person 1 58;person 2 56;person 3 54;"
                + "person 4 52;person 5 54");
        for (int one : from) {
            mail.post(one, one == 0 ? 1 : 0);
        }
        return mail;
    }

    private static void thiefYears() {
        GlacierMail mail = lip(0);
        Check.argument("0", () -> mail.thieves(0, false));
        Check.argument("-1", () -> mail.thieves(-1, true));
        Check.argument("31", () -> mail.thieves(31, false));
        Check.same("NOW alone", mail.thieves(1, false), 0);
        Check.same("NOW and a year more", mail.thieves(2, false), 1);
        mail.years(1);
        Check.same("in NOW", mail.thieves(1, false), 1);
        mail.years(1);
        Check.same("no more when gone by", mail.thieves(30, false), 0);
        // out in 29 and in 30
        GlacierMail far = Check.told("lanes 6;last 60;section 0 2 2 2 2 2 2;person 0 2;person 0 0");
        far.post(0, 1);
        far.post(1, 0);
        Check.same("29 years do not do", far.thieves(29, false), 0);
        Check.same("30 years reach to 29, not to 30", far.thieves(30, false), 1);
        far.years(1);
        Check.same("a year on", far.thieves(30, false), 2);
        Check.same("29", far.thieves(29, false), 1);
        WayWords.laterBy(mail, 296);
        mail.post(0, 1);
        Check.same("beyond 299 nothing comes", mail.thieves(30, false), 1);
        mail.years(1);
        Check.same("in the last year", mail.thieves(30, false), 1);
    }

    private static void thiefGoes() {
        Check.same("two lanes in a year", lip(0, 2).thieves(30, false), 1);
        Check.same("one lane in a year", lip(1, 2).thieves(30, false), 2);
        Check.same("there and on", lip(1, 2, 3).thieves(30, false), 3);
        Check.same("three lanes in two years", lip(0, 3).thieves(30, false), 1);
        Check.same("stay and go", lip(0, 0, 2, 2, 2).thieves(30, false), 3);
        Check.same("by a lane where nothing comes", lip(1, 3).thieves(30, false), 2);
        Check.same("back", lip(5, 4).thieves(30, false), 2);
        Check.same("over the last lane one cannot go", lip(0, 5).thieves(30, false), 1);
        Check.same("stay", lip(0, 0, 0).thieves(30, false), 3);
    }

    private static void thiefTakes() {
        GlacierMail mail = Check.told("lanes 2;last 10;section 0 9 9;person 0 1 watch 0;person 0 5 watch 0;rock 0 1;rock 0 1;"
                + "rock 1 1;rock 1 1;rock 1 1");
        Check.same("rocks do not count", mail.thieves(2, false), 0);
        mail.post(0, 1);
        mail.post(1, 0);
        Check.same("two", mail.thieves(2, false), 2);
        Check.same("opened", mail.years(1), 2);
        Check.same("opened or not", mail.thieves(1, false), 2);
        mail.years(1);
        Check.same("not what came out ahead", mail.thieves(30, false), 0);
        GlacierMail waits = Check.told("lanes 2;last 10;section 0 9 9;person 0 1;person 0 5");
        waits.post(0, 1);
        waits.years(2);
        Check.same("nor what waits", waits.thieves(30, false), 0);
    }

    private static void thiefBegins() {
        Check.same("nothing comes: the least", new GlacierMail().thieves(30, true), 0);
        Check.same("in year 1 at lane 0: 0 or 1", lip(0).thieves(2, true), 0);
        Check.same("in year 1 at lane 1: 0, 1 or 2", lip(1).thieves(2, true), 0);
        Check.same("in year 2 at lane 2: 0 to 4", lip(2).thieves(3, true), 0);
        Check.same("in year 3 at lane 5: 2 on", lip(5).thieves(4, true), 2);
        GlacierMail now = lip(5);
        now.years(3);
        Check.same("NOW at lane 5", now.thieves(1, true), 5);
        // in 1 at lane 1, in 3 at lane 5: only one of both
        Check.same("of two with as many the least", lip(1, 5).thieves(30, true), 0);
        Check.same("but where it is more", lip(1, 5, 5).thieves(30, true), 2);
    }

    private static void watchmanYears() {
        GlacierMail mail = lip(0, 1, 1, 3);
        Check.argument("0", () -> mail.watchman(0, false));
        Check.argument("-1", () -> mail.watchman(-1, true));
        Check.argument("31", () -> mail.watchman(31, true));
        Check.same("NOW nothing comes", mail.watchman(1, false) * 10 + mail.watchman(1, true), 0);
        Check.same("lane 1 by year 1", mail.watchman(2, false) * 10 + mail.watchman(2, true), 11);
        mail.years(1);
        Check.same("lane 1 NOW", mail.watchman(1, false) * 10 + mail.watchman(1, true), 11);
        mail.years(1);
        Check.same("gone by: lane 3 in 3", mail.watchman(2, false) * 10 + mail.watchman(2, true), 30);
        GlacierMail far = Check.told("lanes 6;last 60;section 0 2 2 2 2 2 2;person 5 2;person 5 0");
        far.post(0, 1);
        far.post(1, 0);
        Check.same("29 years do not reach to 29", far.watchman(29, false), 0);
        Check.same("30 years do", far.watchman(30, false), 5);
    }

    private static void watchmanBest() {
        // lane 0: one, lane 1: two, lane 2: three
        GlacierMail mail = lip(0, 1, 1, 2, 2, 2);
        Check.same("guards where most comes", mail.watchman(30, false), 2);
        Check.same("then the best other has two", mail.watchman(30, true), 2);
        Check.same("by year 1 it is lane 1", mail.watchman(2, false) * 10 + mail.watchman(2, true), 11);
        // the best other one is one lane all the time: 1 in lane 0, 1 in lane 2, not both
        Check.same("one all the time", lip(0, 2, 3, 3).watchman(30, true), 1);
        GlacierMail rocks = Check.told("lanes 2;last 10;section 0 9 9;person 0 1;person 1 1;rock 1 1;rock 1 1;rock 1 1");
        rocks.post(0, 1);
        Check.same("rocks do not count", rocks.watchman(2, false) * 10 + rocks.watchman(2, true), 0);
    }

    private static void watchmanLeast() {
        Check.same("nothing comes: the least", new GlacierMail().watchman(30, false), 0);
        Check.same("nothing comes: how many", new GlacierMail().watchman(30, true), 0);
        Check.same("two lanes with as many: the least", lip(2, 5).watchman(30, false), 0);
        Check.same("as the other one stays, whichever", lip(2, 5).watchman(30, true), 1);
        Check.same("the last lane", lip(5).watchman(30, false) * 10 + lip(5).watchman(30, true), 50);
        GlacierMail one = Check.told("lanes 1;last 10;section 0 9;person 0 1;person 0 1");
        one.post(0, 1);
        Check.same("one lane", one.watchman(30, false), 0);
        Check.same("one lane: 0", one.watchman(30, true), 0);
    }

    private static void meetingOfOneLane() {
        GlacierMail mail = Check.told("lanes 2;last 20;section 0 2 2;section 6 0 0;rock 0 0;rock 0 6;rock 1 6;person 0 2;"
                + "person 1 0");
        Check.same("two rocks", mail.meeting(0, 1), 3);
        Check.same("told the other way round", mail.meeting(1, 0), 3);
        Check.same("at one row of two lanes", mail.meeting(1, 2), -1);
        mail.post(0, 1);
        Check.same("a letter and a rock", mail.meeting(3, 1), 2);
        Check.argument("one and itself", () -> mail.meeting(1, 1));
    }

    private static void meetingInTheIce() {
        // 0 2 4 6; the letter is thrown in at 2 in year 1, where the rock is by then, or at 2 in year 3
        GlacierMail mail = Check.told("lanes 1;last 10;section 0 2;section 6 0;rock 0 0;person 0 2;person 0 6");
        mail.years(1);
        mail.post(0, 1);
        Check.same("in the year of the throw", mail.meeting(0, 1), 1);
        mail.years(2);
        mail.post(0, 1);
        Check.same("not ahead of the throw", mail.meeting(0, 2), 5);
        mail.post(1, 0);
        Check.same("at once", mail.meeting(0, 3), 3);
        GlacierMail out = Check.told("lanes 1;last 10;section 0 5;rock 0 0;rock 0 5;rock 0 4;rock 0 9;rock 0 9");
        Check.same("not at the LIP", out.meeting(0, 1), -1);
        Check.same("nor both out at once", out.meeting(1, 3), -1);
        Check.same("at the last row", out.meeting(3, 4), 0);
        out.years(1);
        Check.same("out NOW", out.meeting(3, 4), -1);
    }

    private static void meetingYears() {
        GlacierMail mail = Check.told("lanes 1;last 20;rock 0 0;rock 0 4;rock 0 4");
        Check.same("from NOW on", mail.meeting(1, 2), 0);
        mail.years(7);
        Check.same("NOW", mail.meeting(1, 2), 7);
        Check.same("none", mail.meeting(0, 1), -1);
        Check.law(mail, "fast 4 if row < 1 and year > 297");
        Check.same("in the last year", mail.meeting(0, 1), 299);
        Check.law(mail, "fast 4 if row < 1 and year > 298");
        Check.same("not behind it", mail.meeting(0, 1), -1);
        // they met, and have parted since
        Check.law(mail, "fast 4 if row < 1 and year < 3;fast 1 if year > 4 and row > 3 and row < 5");
        Check.same("both at 4 since year 1, and go on as one", mail.meeting(0, 1), 7);
        WayWords.laterBy(mail, 292);
        Check.same("in the last year of all", mail.meeting(1, 2), 299);
    }

    private static void order() {
        // rock 0: out in 2; letter 1: in 1; rock 2: never; letter 3: in 1; rock 4: in 2
        GlacierMail mail = Check.told("lanes 2;last 10;section 0 5 0;person 0 5;person 0 6;rock 0 0");
        mail.post(0, 1);
        Check.valley(mail, "rock 1 0");
        mail.post(1, 0);
        Check.valley(mail, "rock 0 1");
        int[] due = {1, 3, 0, 4, -1, -1};
        for (int k = 0; k < due.length; k++) {
            Check.same("the " + k + "-th", mail.order(k), due[k]);
        }
        Check.same("below", mail.order(-1), -1);
        Check.same("far", mail.order(Integer.MAX_VALUE), -1);
        Check.same("far below", mail.order(Integer.MIN_VALUE), -1);
        Check.same("of none", new GlacierMail().order(0), -1);
        GlacierMail all = Texts.told("lanes 1;last 10;section 0 9", Texts.times(12, "rock 0 0"), Texts.times(12, "rock 0 5"));
        Check.same("the last of 24", all.order(23), 11);
        Check.same("no more", all.order(24), -1);
    }

    private static void streams() {
        GlacierMail mail = Check.told("lanes 3;last 10;section 0 5 5 5;person 0 5;person 1 0;rock 0 0;rock 2 5;stripe 2");
        mail.post(0, 1);
        mail.post(1, 0);
        // lane 0: in 2 (rock) and 1; lane 1: in 2; lane 2: in 1 (rock)
        Check.same("first by 0", mail.streams(0, false), 0);
        Check.same("first by 1: just in that year", mail.streams(1, false), 1);
        Check.same("second by 1", mail.streams(1, true), 1);
        Check.same("first by 2: those ahead, too", mail.streams(2, false), 3);
        Check.same("second by 299", mail.streams(299, true), 1);
        Check.valley(mail, "stripe 0");
        Check.same("none is first", mail.streams(299, false), 0);
        Check.same("all are second", mail.streams(299, true), 4);
        Check.valley(mail, "stripe 3");
        Check.same("all are first", mail.streams(299, false), 4);
        Check.same("none is second", mail.streams(299, true), 0);
    }

    private static void range() {
        GlacierMail mail = Check.told("lanes 3;last 20;section 0 5 20 0");
        Check.same("four", mail.range(0, 0), 4);
        Check.same("one", mail.range(1, 0), 1);
        Check.same("none", mail.range(2, 0), -1);
        Check.same("just in time", mail.range(0, 295), 4);
        Check.same("too late", mail.range(0, 296), -1);
        Check.same("just in time for one", mail.range(1, 298), 1);
        Check.same("in the last year", mail.range(1, 299), -1);
        mail.years(50);
        Check.same("in a year gone by, too", mail.range(0, 0), 4);
        Check.law(mail, "fast 1 if lane > 1 and year > 9 and year < 30");
        Check.same("19 rows to go in the first 20 years", mail.range(2, 10), 20);
        Check.same("by that year", mail.range(2, 11), -1);
    }
}
