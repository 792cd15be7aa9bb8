/** "Promise 25" to "Promise 48": each call with what may be told to it. */
final class AskWords {
    private AskWords() {
    }

    static void all() {
        says(25, "PASSES.", AskWords::passes);
        says(26, "WRITERS, as bits.", AskWords::writers);
        says(26, "IllegalArgumentException: the YEAR, or how deep (0 to 99) is none.", AskWords::writersOfNone);
        says(27, "WRITERS: the greatest YEAR of a PERSON; NONE.", AskWords::wrote);
        says(27, "IllegalArgumentException likewise.", AskWords::wroteOfNone);
        says(28, "SPEED of a LANE in a TABLE.", AskWords::table);
        says(29, "Whether two TABLES are TOLD APART by a set of LANES.", AskWords::apart);
        says(30, "FEWEST, as bits; NONE.", AskWords::poles);
        says(31, "Uses the TAPE up: FIT (of each reading two bytes: the LANE, the SPEED, 0 to 20): as bits.", AskWords::fit);
        says(31, "IllegalArgumentException: the TAPE is not that", AskWords::fitWrong);
        says(31, "(none may be told).", AskWords::fitNone);
        says(32, "SOONEST: the YEAR (many false), or how many LETTERS; NONE.", AskWords::soonest);
        says(32, "IllegalArgumentException: both are one.", AskWords::soonestOne);
        says(33, "CHAIN: the k-th; NONE (also without a way, or k beyond).", AskWords::chain);
        says(33, "IllegalArgumentException: both are one, or k is below 0.", AskWords::chainBelow);
        says(34, "REACHED, as bits. IllegalArgumentException.", AskWords::reached);
        says(35, "THIEVES: how many (begin false), or the LANE. IllegalArgumentException: N is none.", AskWords::thieves);
        says(36, "WATCHMAN: the LANE (many false), or how many. IllegalArgumentException: N is none.", AskWords::watchman);
        says(37, "MEETINGS: the first YEAR; NONE.", AskWords::meeting);
        says(37, "IllegalArgumentException: both are one.", AskWords::meetingOne);
        says(38, "How many (ROCKS, too) are OUT in just that YEAR. IllegalArgumentException.", AskWords::outs);
        says(39, "ORDER: the k-th LETTER (from 0 on); NONE.", AskWords::order);
        says(40, "STREAMS: how many are OUT by a YEAR in the first stream (second false), or the second."
                + " IllegalArgumentException.", AskWords::streams);
        says(41, "RANGE; NONE. IllegalArgumentException.", AskWords::range);
        says(42, "The LANE that is the soonest from a ROW, thrown in in a YEAR (of several the least);", AskWords::swiftest);
        says(42, "NONE, if none is OUT.", AskWords::swiftestNone);
        says(42, "IndexOutOfBoundsException: there is no such ROW; IllegalArgumentException.", AskWords::swiftestEdges);
        says(43, "LETTERS that are BARE in a YEAR, as bits. IllegalArgumentException.", AskWords::bare);
        says(44, "THE LOG: the k-th OPENING (from 0 on) what 0 YEAR, 1 the LETTER, 2 by whom;", AskWords::log);
        says(44, "NONE without.", AskWords::logNone);
        says(44, "NoSuchElementException: another what.", AskWords::logWhat);
        says(45, "UNDONE: whether there was one.", AskWords::undo);
        says(46, "THE IMAGE is kept.", AskWords::image);
        says(47, "One goes back to THE IMAGE: true;", AskWords::back);
        says(47, "false, and nothing happens, if none was kept.", AskWords::backNone);
        counts();
    }

    private static void counts() {
        says(48, "0 LANES, 1 LAST, 2 SECTIONS, 3 PEOPLE, 4 LETTERS (ROCKS, too), 5 FLOODS, 6 TABLES, 7 texts of THE VALLEY,",
                AskWords::countTold);
        says(48, "8 LINES of THE LAW (NONE without one),", AskWords::countLines);
        says(48, "9 NOW, 10 SNOW, 11 FALL, 12 STRIPE, 13 SEED,", AskWords::countSingle);
        says(48, "14 LETTERS OPENED, 15 LETTERS that wait,", AskWords::countOpened);
        says(48, "16 those in the ice now (ROCKS, too),", AskWords::countInTheIce);
        says(48, "17 acts that can be UNDONE.", AskWords::countActs);
        says(48, "NONE for another what.", AskWords::countNone);
    }

    private static void says(int promise, String words, Runnable test) {
        Doc.says(Doc.promise(promise), words, test);
    }

    private static void refusesBothOne(CallWords.Asked asked, int most) {
        for (int one = 0; one <= most; one++) {
            int both = one;
            Check.argument("both " + both, () -> asked.of(both));
        }
        Check.index("both none", () -> asked.of(most + 1));
        Check.index("both below", () -> asked.of(-1));
    }

    private static void passes() {
        GlacierMail mail = Check.told("lanes 1;last 20;section 0 9;section 5 0;rock 0 0;rock 0 5;rock 0 8");
        CallWords.indexOf("letters", 3, letter -> mail.passes(letter));
        Check.same("one", mail.passes(0), 2);
        Check.same("none", mail.passes(2), 0);
    }

    private static GlacierMail huts() {
        return Check.told("lanes 2;last 20;section 0 5 5;snow 0 fall 0;person 0 0;person 0 15;person 0 15;person 1 15");
    }

    private static void writers() {
        GlacierMail mail = huts();
        CallWords.indexOf("lanes", 2, lane -> mail.writers(lane, 9, 0));
        Check.same("three", mail.writers(0, 9, 0), 7);
        Check.same("of the other lane", mail.writers(1, 9, 0), 8);
        Check.same("two", mail.writers(0, 1, 0), 6);
        Check.same("none", mail.writers(0, 0, 0), 0);
    }

    private static void writersOfNone() {
        GlacierMail mail = huts();
        CallWords.yearsOf("writers", year -> mail.writers(0, year, 0));
        CallWords.edgesOf("deep ", 0, 99, "IllegalArgumentException", deep -> mail.writers(0, 9, deep));
    }

    private static void wrote() {
        GlacierMail mail = huts();
        CallWords.indexOf("people", 4, person -> mail.wrote(person, 0, 9, 0));
        CallWords.indexOf("lanes", 2, lane -> mail.wrote(0, lane, 9, 0));
        Check.same("four years", mail.wrote(0, 0, 9, 0), 5);
        Check.same("one", mail.wrote(1, 0, 9, 0), 8);
        Check.same("year 0", mail.wrote(0, 0, 4, 0), 0);
        Check.same("none", mail.wrote(0, 0, 3, 0), -1);
        Check.same("another lane", mail.wrote(3, 0, 9, 0), -1);
    }

    private static void wroteOfNone() {
        GlacierMail mail = huts();
        CallWords.yearsOf("wrote", year -> mail.wrote(0, 0, year, 0));
        CallWords.edgesOf("deep ", 0, 99, "IllegalArgumentException", deep -> mail.wrote(0, 0, 9, deep));
        // also of one who has no hut in that lane
        CallWords.yearsOf("wrote elsewhere", year -> mail.wrote(3, 0, year, 0));
    }

    private static void table() {
        GlacierMail mail = Check.told("lanes 4;table 0 1 2 3;table 20 19 18 17");
        CallWords.indexOf("tables", 2, table -> mail.table(table, 0));
        CallWords.indexOf("lanes", 4, lane -> mail.table(0, lane));
        Check.same("the first", mail.table(0, 0) * 100 + mail.table(0, 3), 3);
        Check.same("the last", mail.table(1, 0) * 100 + mail.table(1, 3), 2017);
        Check.index("tables and lanes", () -> mail.table(2, 4));
    }

    private static void apart() {
        GlacierMail mail = Check.told("lanes 4;table 0 1 2 3;table 0 1 2 4;table 0 1 2 3");
        CallWords.indexOf("tables", 3, table -> mail.apart(table, 0, 15) ? 1 : 0);
        CallWords.indexOf("others", 3, other -> mail.apart(0, other, 15) ? 1 : 0);
        Check.same("told apart", mail.apart(0, 1, 8), true);
        Check.same("the other way round", mail.apart(1, 0, 8), true);
        Check.same("not by the others", mail.apart(0, 1, 7), false);
        Check.same("alike", mail.apart(0, 2, 15), false);
    }

    private static void poles() {
        Check.same("none are needed", new GlacierMail().poles(), 0);
        Check.same("by lane 2", Check.told("table 1 2 3;table 1 2 4").poles(), 4);
        Check.same("NONE", Check.told("table 1 2 3;table 1 2 3").poles(), -1);
    }

    private static void fit() {
        GlacierMail mail = Check.told("lanes 3;table 0 1 20;table 1 1 20;table 1 2 20");
        Check.same("two of three", Check.fit(mail, 0, 1), 6);
        Check.same("used up", mail.end(1), false);
        Check.same("one", Check.fit(mail, 0, 1, 1, 1), 2);
        Check.same("the last lane, the greatest speed", Check.fit(mail, 2, 20), 7);
        Check.same("the first lane, the least speed", Check.fit(mail, 0, 0), 1);
        Check.same("none", Check.fit(mail, 2, 19), 0);
        int[] full = new int[400];
        for (int i = 0; i < 400; i += 2) {
            full[i] = 2;
            full[i + 1] = 20;
        }
        Check.same("a full TAPE", Check.fit(mail, full), 7);
        full[398] = 0;
        full[399] = 1;
        Check.same("the last reading counts", Check.fit(mail, full), 6);
        full[399] = 20;
        Check.same("and none fits", Check.fit(mail, full), 0);
    }

    private static void fitWrong() {
        GlacierMail mail = Check.told("lanes 3;table 0 1 20;table 1 1 20;table 1 2 20");
        int[][] wrong = {{3, 0}, {255, 0}, {0, 21}, {0, 255}, {0, 128}, {0}, {0, 1, 0}, {0, 1, 3, 0}, {0, 1, 0, 21}, {32, 1}};
        for (int[] readings : wrong) {
            String told = java.util.Arrays.toString(readings);
            Check.argument(told, () -> Check.fit(mail, readings));
            Check.same("used up by " + told, mail.end(1), false);
        }
        Check.same("no fault of a text", mail.fault(), -1);
        int[] odd = new int[399];
        Check.argument("all but the last byte", () -> Check.fit(mail, odd));
        int[] full = new int[400];
        Check.same("a full TAPE", Check.fit(mail, full), 1);
        full[399] = 21;
        Check.argument("of which the last speed is none", () -> Check.fit(mail, full));
        full[399] = 0;
        full[398] = 3;
        Check.argument("of which the last lane is none", () -> Check.fit(mail, full));
        GlacierMail six = Check.told("lanes 6;table 0 0 0 0 0 7");
        Check.same("lane 5 of 6", Check.fit(six, 5, 7), 1);
        Check.argument("lane 6 of 6", () -> Check.fit(six, 6, 7));
        Check.argument("without tables", () -> Check.fit(new GlacierMail(), 3, 0));
    }

    private static void fitNone() {
        Check.same("no reading, no table", Check.fit(new GlacierMail()), 0);
        Check.same("no reading, one table", Check.fit(Check.told("table 1 1 1")), 1);
        Check.same("no reading, six tables", Check.fit(Check.told(Texts.times(6, "table 1 1 1"))), 63);
    }

    /** 0 throws into lane 0 (2 years), which 1 watches; 1 into lane 1 (3 years), which 2 watches; 3 watches none. */
    private static GlacierMail answers() {
        return Check.told("lanes 3;last 12;section 0 6 4 0;person 0 0;person 1 0 watch 0;person 2 0 watch 1;person 0 0");
    }

    private static void soonest() {
        GlacierMail mail = answers();
        CallWords.indexOf("from", 4, from -> mail.soonest(from, from == 0 ? 1 : 0, false));
        CallWords.indexOf("to", 4, to -> mail.soonest(to == 0 ? 1 : 0, to, true));
        Check.same("the year", mail.soonest(0, 2, false), 6);
        Check.same("how many", mail.soonest(0, 2, true), 2);
        Check.same("none: the year", mail.soonest(0, 3, false), -1);
        Check.same("none: how many", mail.soonest(0, 3, true), -1);
    }

    private static void soonestOne() {
        GlacierMail mail = answers();
        refusesBothOne(one -> mail.soonest(one, one, false), 3);
        refusesBothOne(one -> mail.soonest(one, one, true), 3);
    }

    private static void chain() {
        GlacierMail mail = answers();
        CallWords.indexOf("from", 4, from -> mail.chain(from, from == 0 ? 1 : 0, 0));
        CallWords.indexOf("to", 4, to -> mail.chain(to == 0 ? 1 : 0, to, 0));
        int[] due = {0, 1, 2, -1, -1};
        for (int k = 0; k < due.length; k++) {
            Check.same("throw " + k, mail.chain(0, 2, k), due[k]);
        }
        Check.same("k far beyond", mail.chain(0, 2, Integer.MAX_VALUE), -1);
        for (int k = 0; k < 3; k++) {
            Check.same("without a way " + k, mail.chain(0, 3, k), -1);
        }
    }

    private static void chainBelow() {
        GlacierMail mail = answers();
        refusesBothOne(one -> mail.chain(one, one, 0), 3);
        Check.argument("k -1", () -> mail.chain(0, 2, -1));
        Check.argument("k far below", () -> mail.chain(0, 2, Integer.MIN_VALUE));
        Check.argument("also without a way", () -> mail.chain(0, 3, -1));
    }

    private static void reached() {
        GlacierMail mail = answers();
        CallWords.indexOf("people", 4, person -> mail.reached(person, 0));
        CallWords.yearsOf("reached", year -> mail.reached(0, year));
        Check.same("by 1", mail.reached(0, 1), 1);
        Check.same("by 2", mail.reached(0, 2), 3);
        Check.same("by 6", mail.reached(0, 6), 7);
        Check.same("from another", mail.reached(3, 299), 8 + 2 + 4);
    }

    /** Out in year 1: two in lane 2, one in lane 0. */
    private static GlacierMail lip() {
        GlacierMail mail = Check.told("lanes 3;last 10;section 0 9 9 9;person 0 5;person 2 5");
        mail.post(0, 1);
        mail.post(1, 0);
        mail.post(1, 0);
        return mail;
    }

    private static void thieves() {
        GlacierMail mail = lip();
        CallWords.edgesOf("years ", 1, 30, "IllegalArgumentException", n -> mail.thieves(n, false));
        CallWords.edgesOf("years ", 1, 30, "IllegalArgumentException", n -> mail.thieves(n, true));
        Check.same("how many", mail.thieves(2, false), 2);
        Check.same("the lane", mail.thieves(2, true), 1);
    }

    private static void watchman() {
        GlacierMail mail = lip();
        CallWords.edgesOf("years ", 1, 30, "IllegalArgumentException", n -> mail.watchman(n, false));
        CallWords.edgesOf("years ", 1, 30, "IllegalArgumentException", n -> mail.watchman(n, true));
        Check.same("the lane", mail.watchman(2, false), 2);
        Check.same("how many", mail.watchman(2, true), 1);
    }

    private static GlacierMail rocks() {
        return Check.told("lanes 2;last 10;section 0 3 3;section 6 0 0;rock 0 0;rock 0 6;rock 1 6;rock 0 7;stripe 1");
    }

    private static void meeting() {
        GlacierMail mail = rocks();
        CallWords.indexOf("letters", 4, letter -> mail.meeting(letter, letter == 0 ? 1 : 0));
        CallWords.indexOf("others", 4, other -> mail.meeting(other == 0 ? 1 : 0, other));
        Check.same("0 3 6", mail.meeting(0, 1), 2);
        Check.same("none", mail.meeting(0, 3), -1);
        Check.same("not of two lanes", mail.meeting(0, 2), -1);
    }

    private static void meetingOne() {
        GlacierMail mail = rocks();
        refusesBothOne(one -> mail.meeting(one, one), 3);
    }

    private static void outs() {
        GlacierMail mail = lip();
        CallWords.yearsOf("outs", mail::outs);
        Check.valley(mail, "rock 1 1;rock 1 0");
        Check.same("ahead", mail.outs(0), 0);
        Check.same("just then, a rock, too", mail.outs(1), 4);
        Check.same("a year on", mail.outs(2), 1);
        Check.same("and no more", mail.outs(3), 0);
        // asked first after a change of what is told
        Check.law(mail, "slow 9 if year < 4");
        Check.same("by the flow of now", mail.outs(5), 4);
    }

    private static void order() {
        GlacierMail mail = lip();
        Check.valley(mail, "rock 1 1;rock 1 0");
        int[] due = {0, 1, 2, 3, 4, -1};
        for (int k = 0; k < due.length; k++) {
            Check.same("the " + k + "-th", mail.order(k), due[k]);
        }
        Check.same("below", mail.order(-1), -1);
        Check.law(mail, "slow 9 if lane < 1 and year < 4");
        Check.same("letter 0 is the last", mail.order(4), 0);
        Check.same("letter 1 the first", mail.order(0), 1);
    }

    private static void streams() {
        GlacierMail mail = lip();
        Check.valley(mail, "stripe 2");
        CallWords.yearsOf("first", year -> mail.streams(year, false));
        CallWords.yearsOf("second", year -> mail.streams(year, true));
        Check.same("first by 0", mail.streams(0, false), 0);
        Check.same("first by 1", mail.streams(1, false), 1);
        Check.same("second by 1", mail.streams(1, true), 2);
    }

    private static void range() {
        GlacierMail mail = Check.told("lanes 3;last 10;section 0 9 10 0");
        CallWords.indexOf("lanes", 3, lane -> mail.range(lane, 0));
        CallWords.yearsOf("range", year -> mail.range(0, year));
        Check.same("two", mail.range(0, 0), 2);
        Check.same("one", mail.range(1, 0), 1);
        Check.same("none", mail.range(2, 0), -1);
    }

    private static void swiftest() {
        GlacierMail mail = Check.told("lanes 4;last 20;section 0 5 9 4 9");
        Check.same("of two the least", mail.swiftest(0, 0), 1);
        Check.same("by one row", mail.swiftest(14, 0), 1);
        Check.same("all a year", mail.swiftest(19, 0), 0);
        Check.same("the last year that does", mail.swiftest(19, 298), 0);
        Check.law(mail, "fast 20 if lane > 2 and year > 6");
        Check.same("by the year", mail.swiftest(0, 7), 3);
        Check.same("a year ahead as well: 9, then all", mail.swiftest(0, 6), 3);
        Check.same("not two", mail.swiftest(0, 5), 1);
    }

    private static void swiftestNone() {
        Check.same("nothing flows", new GlacierMail().swiftest(39, 0), -1);
        GlacierMail mail = Check.told("lanes 2;last 20;section 0 0 9");
        Check.same("one is out in 3", mail.swiftest(0, 296), 1);
        Check.same("too late", mail.swiftest(0, 297), -1);
        Check.same("in the last year", mail.swiftest(19, 299), -1);
    }

    private static void swiftestEdges() {
        GlacierMail mail = Check.told("lanes 2;last 20;section 0 0 9");
        CallWords.indexOf("rows", 20, row -> mail.swiftest(row, 0));
        CallWords.yearsOf("swiftest", year -> mail.swiftest(0, year));
    }

    private static void bare() {
        GlacierMail mail = lip();
        CallWords.yearsOf("bare", mail::bare);
        Check.law(mail, "slow 9 if lane > 1");
        Check.valley(mail, "snow 0 fall 0;rock 2 0;rock 0 9");
        Check.same("in the year of the throws", mail.bare(0), 0);
        Check.same("those of lane 2", mail.bare(1), 2 + 4 + 8);
        Check.same("in the last year", mail.bare(299), 14);
    }

    private static void log() {
        GlacierMail mail = lip();
        mail.years(3);
        mail.open(2);
        mail.years(1);
        mail.open(0);
        int[][] due = {{3, 2, 0}, {4, 0, 1}};
        for (int k = 0; k < 2; k++) {
            for (int what = 0; what < 3; what++) {
                Check.same("opening " + k + " what " + what, mail.log(k, what), due[k][what]);
            }
        }
    }

    private static void logNone() {
        GlacierMail mail = lip();
        for (int what = 0; what < 3; what++) {
            Check.same("no opening yet", mail.log(0, what), -1);
        }
        mail.years(3);
        mail.open(2);
        for (int k : new int[] {1, 2, 24, -1, Integer.MIN_VALUE, Integer.MAX_VALUE}) {
            Check.same("opening " + k, mail.log(k, 1), -1);
        }
        mail.undo();
        Check.same("undone", mail.log(0, 1), -1);
    }

    private static void logWhat() {
        GlacierMail mail = lip();
        CallWords.whatsOf("no opening", 2, what -> mail.log(0, what));
        CallWords.whatsOf("an opening that is none", 2, what -> mail.log(-1, what));
        mail.years(3);
        mail.open(2);
        CallWords.whatsOf("opening", 2, what -> mail.log(0, what));
    }

    private static void undo() {
        GlacierMail mail = lip();
        for (int i = 0; i < 3; i++) {
            Check.same("a letter", mail.undo(), true);
            Check.same("less", mail.count(4), 2 - i);
        }
        Check.same("none", mail.undo(), false);
        Check.same("nothing happens", mail.count(4) + mail.count(17), 0);
        Check.same("none is there to undo in a new object", new GlacierMail().undo(), false);
        // asked first after it: what letter 0 was, and what it is now
        mail.post(0, 1);
        Check.same("out in 1", mail.outs(1), 1);
        mail.undo();
        Check.same("none", mail.outs(1), 0);
        Check.law(mail, "slow 9 if lane < 1");
        mail.post(0, 1);
        Check.same("in the ice", mail.count(16), 1);
        mail.undo();
        mail.post(1, 0);
        mail.years(1);
        Check.same("the other is out", mail.count(16), 0);
    }

    private static void image() {
        GlacierMail mail = lip();
        mail.image();
        Check.same("three acts, as ahead", mail.count(17), 3);
        mail.undo();
        mail.image();
        mail.post(0, 1);
        mail.post(0, 1);
        mail.back();
        Check.same("the later one", mail.count(4), 2);
        Check.same("none is remembered", mail.undo(), false);
    }

    private static void back() {
        GlacierMail mail = lip();
        mail.image();
        Check.same("nothing was done since", mail.back(), true);
        Check.same("but no act is remembered", mail.count(17), 0);
        mail.years(2);
        Check.same("waits", mail.count(15), 3);
        Check.same("back", mail.back(), true);
        Check.same("in the ice", mail.count(16), 3);
        Check.same("NOW", mail.count(9), 0);
        mail.post(0, 1);
        Check.same("and again", mail.back(), true);
        Check.same("letters", mail.count(4), 3);
    }

    private static void backNone() {
        GlacierMail mail = lip();
        String before = Picture.of(mail);
        Check.same("none was kept", mail.back(), false);
        Check.same("nothing happens", Picture.of(mail), before);
        Check.same("the acts are still remembered", mail.undo(), true);
    }

    private static void countTold() {
        GlacierMail mail = Check.told("lanes 5;last 12;section 0 1 1 1 1 1;section 3 1 1 1 1 1;person 0 0;person 0 0;person 0 0;"
                + "rock 0 0;flood 0 0 1;flood 0 0 1;flood 0 0 1;flood 0 0 1;table 1 1 1 1 1");
        mail.post(0, 1);
        Check.valley(mail, "");
        int[] due = {5, 12, 2, 3, 2, 4, 1, 2};
        for (int what = 0; what < due.length; what++) {
            Check.same("what " + what, mail.count(what), due[what]);
        }
        mail.years(20);
        Check.same("letters that are out, too", mail.count(4), 2);
    }

    private static void countLines() {
        GlacierMail mail = new GlacierMail();
        Check.same("without a law", mail.count(8), -1);
        Check.law(mail, "");
        Check.same("a law without lines", mail.count(8), 0);
        Check.law(mail, Texts.times(12, "open"));
        Check.same("twelve", mail.count(8), 12);
    }

    private static void countSingle() {
        GlacierMail mail = Check.told("snow 7 fall 8;stripe 2;seed 4321");
        mail.years(6);
        int[] due = {6, 7, 8, 2, 4321};
        for (int i = 0; i < due.length; i++) {
            Check.same("what " + (i + 9), mail.count(i + 9), due[i]);
        }
    }

    private static void countOpened() {
        GlacierMail mail = lip();
        Check.valley(mail, "rock 0 9;rock 0 9");
        mail.watch(0, 2);
        Check.same("in the ice none waits", mail.count(15), 0);
        mail.years(1);
        Check.same("opened", mail.count(14), 2);
        Check.same("waits: no rock does", mail.count(15), 1);
        mail.open(0);
        Check.same("opened, all", mail.count(14), 3);
        Check.same("none waits", mail.count(15), 0);
        // asked first after a change of what is told
        GlacierMail late = lip();
        late.years(1);
        Check.same("three", late.count(15), 3);
        Check.law(late, "slow 9 if lane > 1");
        Check.same("one by the flow of now", late.count(15), 1);
        late.image();
        Check.law(late, "");
        Check.same("three", late.count(15), 3);
        late.back();
        Check.same("one", late.count(15), 1);
    }

    private static void countInTheIce() {
        GlacierMail mail = lip();
        Check.valley(mail, "rock 0 9;rock 0 0;rock 1 0");
        Check.same("all, rocks too", mail.count(16), 6);
        mail.years(1);
        Check.same("those that are not out by now", mail.count(16), 2);
        mail.years(1);
        Check.same("none", mail.count(16), 0);
        Check.law(mail, "slow 9 if lane < 1");
        Check.same("asked first after a change of what is told", mail.count(16), 3);
        mail.post(0, 1);
        Check.same("thrown in now", mail.count(16), 4);
        mail.undo();
        Check.same("undone", mail.count(16), 3);
    }

    private static void countActs() {
        GlacierMail mail = Check.told("person 0 0;person 1 1");
        Check.same("none", mail.count(17), 0);
        for (int i = 1; i <= 13; i++) {
            mail.watch(0, 0);
            Check.same("acts", mail.count(17), Math.min(i, 12));
        }
        mail.undo();
        Check.same("one less", mail.count(17), 11);
        Check.valley(mail, "");
        Check.same("none", mail.count(17), 0);
    }

    private static void countNone() {
        GlacierMail mail = lip();
        for (int what : new int[] {-1, 18, 19, Integer.MIN_VALUE, Integer.MAX_VALUE}) {
            Check.same("what " + what, mail.count(what), -1);
        }
    }
}
