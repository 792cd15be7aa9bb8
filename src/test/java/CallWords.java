/** "Promise 1" to "Promise 24": each call with what may be told to it. */
final class CallWords {
    /** A call that is asked about one number. */
    interface Asked {
        Object of(int number);
    }

    private CallWords() {
    }

    static void all() {
        says(1, "Ice without SECTIONS.", CallWords::newObject);
        texts();
        people();
        throwing();
    }

    private static void says(int promise, String words, Runnable test) {
        Doc.says(Doc.promise(promise), words, test);
    }

    private static void texts() {
        says(2, "Twenty bytes come behind the TAPE, of each number the highest first: how many it has;", CallWords::feed);
        says(2, "NONE, and none come, if it would have more than 400.", CallWords::feedFull);
        says(3, "The TAPE has its first n bytes alone: true;", CallWords::end);
        says(3, "false, and nothing happens, if it has fewer, or n is below 0.", CallWords::endNone);
        says(4, "Uses the TAPE up: a text of THE VALLEY: how many texts there are.", CallWords::valley);
        says(4, "IllegalArgumentException: it is wrong;", CallWords::valleyWrong);
        says(4, "UnsupportedOperationException: there are 12.", CallWords::valleyTwelve);
        says(5, "Uses the TAPE up: THE LAW: how many LINES.", CallWords::law);
        says(5, "IllegalArgumentException: the text is wrong.", CallWords::lawWrong);
        says(6, "The first wrong byte of the latest text that was read;", CallWords::fault);
        says(6, "NONE without one, and ahead of any.", CallWords::faultNone);
        says(7, "HEAT. IllegalArgumentException.", CallWords::heat);
        says(8, "SPEED.", CallWords::speed);
        says(9, "FLOW. IllegalArgumentException.", CallWords::flow);
    }

    private static void people() {
        says(10, "Of a PERSON what 0 the LANE, 1 the ROW of the HUT, 2 the LANE that one WATCHES (NONE),", CallWords::person);
        says(10, "3 how many LETTERS one threw in,", CallWords::personThrew);
        says(10, "4 how many one OPENED,", CallWords::personOpened);
        says(10, "5 how many wait that are to that one.", CallWords::personWaits);
        says(10, "NoSuchElementException: another what.", CallWords::personWhat);
        says(11, "Of a LETTER what 0 from whom, 1 to whom (NONE each of a ROCK),", CallWords::letterWho);
        says(11, "2 the LANE, 3 the YEAR, 4 the ROW where it was thrown in,", CallWords::letterWhere);
        says(11, "5 who OPENED it, 6 in which YEAR (NONE each),", CallWords::letterOpened);
        says(11, "7 the YEAR in which it is OUT, 8 how deep it is then, 9 the first YEAR in which it is BARE (NONE each).",
                CallWords::letterOut);
        says(11, "NoSuchElementException: another what.", CallWords::letterWhat);
        says(12, "ROW of a LETTER in a YEAR (LAST, if it is OUT; NONE ahead of its YEAR). IllegalArgumentException.",
                CallWords::where);
        says(13, "How DEEP a LETTER is in a YEAR (as it was OUT from then on; NONE ahead of its YEAR)."
                + " IllegalArgumentException.", CallWords::deep);
        says(14, "A LETTER is thrown in: its number.", CallWords::post);
        says(14, "IllegalArgumentException: both are one;", CallWords::postBothOne);
        says(14, "UnsupportedOperationException: there are 24.", CallWords::postTwentyFour);
        says(15, "One WATCHES a LANE (NONE: none): which it was.", CallWords::watch);
        says(16, "A LETTER that waits is opened by whom it is to: YEARS since it was thrown in.", CallWords::open);
        says(16, "IllegalStateException: it does not wait.", CallWords::openNot);
        says(17, "So many YEARS more (1 to 50): how many LETTERS were OPENED in these.", CallWords::years);
        says(17, "IllegalArgumentException: they are none, or NOW would be above 299.", CallWords::yearsNone);
    }

    private static void throwing() {
        says(18, "THROWS by LANE, the YEAR they are thrown in in, and that they are OUT in: what 0 how many, 1 the least, 2 the"
                + " greatest ROW; NONE.", CallWords::throwsFor);
        says(18, "IllegalArgumentException: a YEAR is none, or the first is ahead of NOW;", CallWords::throwsForYears);
        says(18, "NoSuchElementException: another what.", CallWords::throwsForWhat);
        says(19, "LATEST; NONE. IllegalArgumentException.", CallWords::latest);
        says(20, "HUT: the ROW; NONE. IllegalArgumentException: N is none.", CallWords::hut);
        says(21, "WITHOUT; NONE.", CallWords::without);
        says(22, "MOVED.", CallWords::moved);
        says(23, "LOST, as bits.", CallWords::lost);
        says(24, "MARKET: the YEAR (many false; NONE), or how many (0).", CallWords::market);
    }

    static boolean isNumber(Object answer) {
        return answer instanceof Integer;
    }

    /** 0 to 299 alone are years. */
    static void yearsOf(String call, Asked asked) {
        edgesOf(call + " in year ", 0, 299, "IllegalArgumentException", asked);
    }

    /** 0 to size less 1 alone are there. */
    static void indexOf(String call, int size, Asked asked) {
        edgesOf(call + " of ", 0, size - 1, "IndexOutOfBoundsException", asked);
    }

    static void whatsOf(String call, int most, Asked asked) {
        edgesOf(call + " what ", 0, most, "NoSuchElementException", asked);
    }

    static void edgesOf(String call, int least, int most, String exception, Asked asked) {
        for (int right : new int[] {least, most}) {
            Check.same(call + right + " answers", isNumber(Check.answer(() -> asked.of(right))), true);
        }
        for (int wrong : new int[] {least - 1, most + 1, Integer.MIN_VALUE, Integer.MAX_VALUE}) {
            Check.refuses(call + wrong, exception, () -> asked.of(wrong));
        }
    }

    /** Two lanes of 20 rows, 5 a year in lane 0, none in lane 1; 0 to 2 have huts, 0 and 1 watch; a rock; heats 8 8 3 5. */
    private static GlacierMail ready() {
        GlacierMail mail = Check.told("lanes 2;last 20;section 0 5 0;snow 5 fall 9;flood 4 0 3;flood 9 0 1;"
                + "person 0 0 watch 1;person 0 5 watch 0;person 1 19;rock 1 7");
        mail.post(0, 1);
        mail.post(0, 2);
        mail.post(2, 0);
        return mail;
    }

    private static void newObject() {
        GlacierMail mail = new GlacierMail();
        Check.same("no sections", mail.count(2), 0);
        for (int lane = 0; lane < 3; lane++) {
            Check.same("no speed", mail.speed(lane, 0) + mail.speed(lane, 39), 0);
            Check.same("no flow", mail.flow(lane, 0, 0) + mail.flow(lane, 39, 299), 0);
            Check.same("nothing comes to the LIP", mail.range(lane, 0), -1);
        }
        int[] none = {3, 4, 5, 6, 7, 9, 14, 15, 16, 17};
        for (int what : none) {
            Check.same("count " + what, mail.count(what), 0);
        }
        Check.same("no law", mail.count(8), -1);
        Check.same("an empty TAPE", mail.end(1), false);
        Check.same("which has 20 bytes by a feed", mail.feed(0, 0, 0, 0, 0), 20);
        Check.same("no image", mail.back(), false);
        // each object by itself
        GlacierMail other = new GlacierMail();
        Check.valley(other, "lanes 6;section 0 1 1 1 1 1 1");
        Check.same("of another object nothing", new GlacierMail().count(0), 3);
    }

    private static void feed() {
        GlacierMail mail = new GlacierMail();
        // "seed", " 123", ";see", "d 45", "67;x"
        Check.same("twenty", mail.feed(0x73656564, 0x20313233, 0x3b736565, 0x64203435, 0x36373b78), 20);
        Check.same("all twenty came", mail.end(20), true);
        mail.end(18);
        Check.same("in their order", mail.valley(), 1);
        Check.same("the highest byte first", mail.count(13), 4567);
        Check.same("from an empty TAPE on", mail.feed(0x73656564, 0x20202020, 0x20202020, 0x20202020, 0x20202032), 20);
        Check.same("behind the others", mail.feed(0x33202020, 0x20202020, 0x20202020, 0x20202020, 0x2020203b), 40);
        mail.end(39);
        mail.valley();
        Check.same("the last of the one, and the first of the other", mail.count(13), 23);
        mail.feed(-1, -1, -1, -1, -1);
        Check.argument("bytes of 255", mail::valley);
        Check.same("from the first on", mail.fault(), 0);
    }

    private static void feedFull() {
        GlacierMail mail = new GlacierMail();
        int blanks = 0x20202020;
        for (int i = 1; i <= 20; i++) {
            Check.same("feed " + i, mail.feed(blanks, blanks, blanks, blanks, blanks), 20 * i);
        }
        Check.same("420", mail.feed(1, 1, 1, 1, 1), -1);
        Check.same("none came", mail.end(401), false);
        Check.same("all are there", mail.end(400), true);
        mail.end(399);
        Check.same("419", mail.feed(1, 1, 1, 1, 1), -1);
        Check.same("none of them", mail.end(400), false);
        mail.end(381);
        Check.same("401", mail.feed(1, 1, 1, 1, 1), -1);
        Check.same("none of these", mail.end(382), false);
        mail.end(380);
        Check.same("just 400", mail.feed(blanks, blanks, blanks, blanks, 0x6f70656e), 400);
        Check.same("they are a law", mail.law(), 1);
    }

    private static void end() {
        GlacierMail mail = new GlacierMail();
        Check.same("0 of none", mail.end(0), true);
        Check.feedText(mail, "open;open;fast 1;xyz");
        Check.same("all", mail.end(20), true);
        Check.same("16", mail.end(16), true);
        Check.same("no more than 16", mail.end(17), false);
        Check.same("16 again", mail.end(16), true);
        Check.same("9", mail.end(9), true);
        Check.same("these alone are read", mail.law(), 2);
        Check.feedText(mail, "open;open;fast 1;xyz");
        Check.same("0 of 20", mail.end(0), true);
        Check.same("an empty text", mail.law(), 0);
    }

    private static void endNone() {
        GlacierMail mail = new GlacierMail();
        Check.same("1 of none", mail.end(1), false);
        Check.feedText(mail, "open;open;fast 1    ");
        for (int n : new int[] {21, 22, 400, 401, -1, -20, Integer.MIN_VALUE, Integer.MAX_VALUE}) {
            Check.same("end " + n, mail.end(n), false);
        }
        Check.same("all is there", mail.end(20), true);
        Check.same("all is read", mail.law(), 3);
    }

    private static void valley() {
        GlacierMail mail = new GlacierMail();
        Check.feedText(mail, "seed 5              ");
        Check.same("the first", mail.valley(), 1);
        Check.same("used up", mail.end(1), false);
        Check.same("an empty TAPE is a text, too", mail.valley(), 2);
        Check.same("texts", mail.count(7), 2);
        Check.same("seed", mail.count(13), 5);
    }

    private static void valleyWrong() {
        GlacierMail mail = new GlacierMail();
        Check.argument("wrong", () -> Check.valley(mail, "seeds 5"));
        Check.same("used up, too", mail.end(1), false);
        Check.same("no text", mail.count(7), 0);
        Check.same("the next is the first", Check.valley(mail, "seed 5"), 1);
    }

    private static void valleyTwelve() {
        GlacierMail mail = new GlacierMail();
        for (int i = 1; i <= 12; i++) {
            Check.same("text " + i, Check.valley(mail, "seed " + i), i);
        }
        Check.unsupported("13", () -> Check.valley(mail, "seed 13"));
        Check.same("used up, too", mail.end(1), false);
        Check.same("nothing of it", mail.count(13), 12);
        Check.unsupported("13, an empty one", mail::valley);
        GlacierMail back = new GlacierMail();
        back.image();
        for (int i = 1; i <= 12; i++) {
            Check.valley(back, "");
        }
        back.back();
        Check.same("by going back there are fewer", Check.valley(back, ""), 1);
    }

    private static void law() {
        GlacierMail mail = new GlacierMail();
        Check.feedText(mail, "open;fast 2;slow 1  ");
        Check.same("three", mail.law(), 3);
        Check.same("used up", mail.end(1), false);
        Check.same("flow", mail.flow(0, 0, 0), 1);
        Check.same("an empty TAPE is a law, too", mail.law(), 0);
        Check.same("none of the one before", mail.flow(0, 0, 0), 0);
        Check.same("twelve", Check.law(mail, Texts.times(12, "open")), 12);
    }

    private static void lawWrong() {
        GlacierMail mail = new GlacierMail();
        Check.law(mail, "fast 2");
        Check.argument("wrong", () -> Check.law(mail, "fast 3;fest 3"));
        Check.same("used up, too", mail.end(1), false);
        Check.same("the law is as before", mail.count(8) * 10 + mail.flow(0, 0, 0), 12);
    }

    private static void fault() {
        GlacierMail mail = new GlacierMail();
        Check.wrongValley(mail, "seed x", 5);
        Check.wrongLaw(mail, "open x", 5);
        Check.wrongLaw(mail, "openx", 0);
        Check.wrongValley(mail, "seed", 4);
        mail.heat(0);
        Check.answer(() -> mail.heat(300));
        Check.answer(() -> Check.fit(mail, 7));
        Check.same("the latest that was read", mail.fault(), 4);
        Check.wrongLaw(mail, "open" + " ".repeat(395) + "x", 399);
    }

    private static void faultNone() {
        GlacierMail mail = new GlacierMail();
        Check.same("ahead of any", mail.fault(), -1);
        Check.feedText(mail, "x");
        Check.same("the TAPE has not been read yet", mail.fault(), -1);
        mail.end(0);
        Check.valley(mail, "seed 1");
        Check.same("a right one", mail.fault(), -1);
        Check.wrongValley(mail, "x", 0);
        Check.law(mail, "open");
        Check.same("a right law behind a wrong text", mail.fault(), -1);
        Check.wrongLaw(mail, "x", 0);
        Check.valley(mail, "");
        Check.same("an empty text behind a wrong law", mail.fault(), -1);
    }

    private static void heat() {
        GlacierMail mail = new GlacierMail();
        yearsOf("heat", mail::heat);
        int[] due = {8, 8, 3, 5, 1, 7, 0, 9, 2, 6};
        for (int year = 0; year < due.length; year++) {
            Check.same("heat " + year, mail.heat(year), due[year]);
        }
    }

    private static void speed() {
        GlacierMail mail = ready();
        indexOf("lanes", 2, lane -> mail.speed(lane, 0));
        indexOf("rows", 20, row -> mail.speed(0, row));
        Check.same("speed", mail.speed(0, 19), 5);
        Check.same("of the other lane", mail.speed(1, 19), 0);
    }

    private static void flow() {
        GlacierMail mail = ready();
        indexOf("lanes", 2, lane -> mail.flow(lane, 0, 0));
        indexOf("rows", 20, row -> mail.flow(0, row, 0));
        yearsOf("flow", year -> mail.flow(1, 19, year));
        Check.law(mail, "fast 7 if year > 298 and row > 18 and lane > 0");
        Check.same("the last of all", mail.flow(1, 19, 299), 7);
        Check.same("a year ahead", mail.flow(1, 19, 298), 0);
        Check.same("a flood is no flow", mail.flow(0, 0, 4), 5);
    }

    private static void person() {
        GlacierMail mail = ready();
        indexOf("people", 3, person -> mail.person(person, 0));
        int[][] due = {{0, 0, 1}, {0, 5, 0}, {1, 19, -1}};
        for (int person = 0; person < 3; person++) {
            for (int what = 0; what < 3; what++) {
                Check.same("person " + person + " what " + what, mail.person(person, what), due[person][what]);
            }
        }
        mail.watch(0, -1);
        Check.same("none any more", mail.person(0, 2), -1);
    }

    private static void personThrew() {
        GlacierMail mail = ready();
        Check.same("two", mail.person(0, 3), 2);
        Check.same("none", mail.person(1, 3), 0);
        Check.same("one", mail.person(2, 3), 1);
        mail.undo();
        Check.same("none again", mail.person(2, 3), 0);
        mail.years(50);
        Check.same("also when out", mail.person(0, 3), 2);
        Check.same("rocks are nobody's", mail.count(4), 3);
        GlacierMail first = Check.told("person 0 0;person 1 1");
        first.post(1, 0);
        Check.same("letter 0", first.person(1, 3), 1);
    }

    private static void personOpened() {
        GlacierMail mail = ready();
        Check.law(mail, "open");
        mail.years(3);
        Check.same("not out yet", mail.person(1, 4), 0);
        mail.years(1);
        // both letters of 0 are out in lane 0, which 1 watches
        Check.same("one's own, and another one's", mail.person(1, 4), 2);
        Check.same("not whom it was to", mail.person(2, 4), 0);
        GlacierMail by = ready();
        by.watch(1, -1);
        by.years(4);
        by.open(1);
        Check.same("by open, too", by.person(1, 4), 1);
    }

    private static void personWaits() {
        GlacierMail mail = ready();
        mail.years(3);
        Check.same("in the ice", mail.person(2, 5), 0);
        mail.years(1);
        Check.same("to 2, who watches none", mail.person(2, 5), 1);
        Check.same("opened", mail.person(1, 5), 0);
        Check.same("in the ice to year 5", mail.person(0, 5), 0);
        mail.open(2);
        Check.same("opened by open", mail.person(2, 5), 0);
        // asked first after each change of what is told
        mail.undo();
        Check.same("waits again", mail.person(2, 5), 1);
        Check.law(mail, "slow 1");
        Check.same("by the flow of now it is in the ice", mail.person(2, 5), 0);
        Check.law(mail, "");
        Check.same("and out again", mail.person(2, 5), 1);
    }

    private static void personWhat() {
        GlacierMail mail = ready();
        whatsOf("person", 5, what -> mail.person(0, what));
    }

    private static void letterWho() {
        GlacierMail mail = ready();
        indexOf("letters", 4, letter -> mail.letter(letter, 0));
        Check.same("a rock", mail.letter(0, 0) * 10 + mail.letter(0, 1), -11);
        Check.same("from 0 to 1", mail.letter(1, 0) * 10 + mail.letter(1, 1), 1);
        Check.same("from 0 to 2", mail.letter(2, 0) * 10 + mail.letter(2, 1), 2);
        Check.same("from 2 to 0", mail.letter(3, 0) * 10 + mail.letter(3, 1), 20);
    }

    private static void letterWhere() {
        GlacierMail mail = ready();
        mail.years(7);
        mail.post(1, 0);
        int[][] due = {{1, 0, 7}, {0, 0, 0}, {0, 0, 0}, {1, 0, 19}, {0, 7, 5}};
        for (int letter = 0; letter < due.length; letter++) {
            for (int i = 0; i < 3; i++) {
                Check.same("letter " + letter + " what " + (i + 2), mail.letter(letter, i + 2), due[letter][i]);
            }
        }
    }

    private static void letterOpened() {
        GlacierMail mail = ready();
        mail.years(3);
        Check.same("not opened", mail.letter(1, 5) * 10 + mail.letter(1, 6), -11);
        mail.years(9);
        Check.same("by 1 in 4", mail.letter(1, 5) * 10 + mail.letter(1, 6), 14);
        Check.same("waits", mail.letter(2, 5) * 10 + mail.letter(2, 6), -11);
        mail.open(2);
        Check.same("by 2 in 12", mail.letter(2, 5) * 100 + mail.letter(2, 6), 212);
        Check.same("a rock", mail.letter(0, 5) * 10 + mail.letter(0, 6), -11);
    }

    private static void letterOut() {
        GlacierMail mail = ready();
        // 9 deep in year 1, by 8 it is 1 in 2, 0 in 3, and out in 4
        Check.same("out", mail.letter(1, 7), 4);
        Check.same("how deep", mail.letter(1, 8), 0);
        Check.same("bare", mail.letter(1, 9), 3);
        Check.same("never out", mail.letter(0, 7), -1);
        Check.same("how deep, never out", mail.letter(0, 8), -1);
        Check.same("bare, never out", mail.letter(0, 9), 1);
        GlacierMail deep = Check.told("lanes 1;last 10;section 0 5;snow 9 fall 9;person 0 0;person 0 5");
        deep.post(0, 1);
        Check.same("18 deep when out", deep.letter(0, 8), 18);
        Check.same("never bare", deep.letter(0, 9), -1);
    }

    private static void letterWhat() {
        GlacierMail mail = ready();
        whatsOf("letter", 9, what -> mail.letter(1, what));
        whatsOf("rock", 9, what -> mail.letter(0, what));
    }

    private static void where() {
        GlacierMail mail = ready();
        indexOf("letters", 4, letter -> mail.where(letter, 0));
        yearsOf("where", year -> mail.where(1, year));
        mail.years(2);
        mail.post(0, 1);
        int[] due = {-1, -1, 0, 5, 10, 18, 20, 20};
        for (int year = 0; year < due.length; year++) {
            Check.same("in " + year, mail.where(4, year), due[year]);
        }
        Check.same("in the last year", mail.where(4, 299), 20);
        Check.same("in the ice in the last year", mail.where(0, 299), 11);
    }

    private static void deep() {
        GlacierMail mail = ready();
        indexOf("letters", 4, letter -> mail.deep(letter, 0));
        yearsOf("deep", year -> mail.deep(1, year));
        mail.years(2);
        mail.post(0, 1);
        // out in 6; by heats 5, 1, 7 of 3, 4, 5
        int[] due = {-1, -1, 0, 9, 4, 3, 0, 0};
        for (int year = 0; year < due.length; year++) {
            Check.same("in " + year, mail.deep(4, year), due[year]);
        }
        GlacierMail out = Check.told("lanes 1;last 10;section 0 5;snow 9 fall 9;person 0 0;person 0 5");
        out.post(0, 1);
        Check.same("as it was out", out.deep(0, 2), 18);
        Check.same("from then on", out.deep(0, 299), 18);
    }

    private static void post() {
        GlacierMail mail = ready();
        Check.same("the next", mail.post(1, 2), 4);
        Check.same("and the next", mail.post(1, 2), 5);
        mail.undo();
        Check.same("that number again", mail.post(2, 1), 5);
        Check.same("letters", mail.count(4), 6);
        indexOf("from", 3, from -> mail.post(from, from == 0 ? 1 : 0));
        indexOf("to", 3, to -> mail.post(to == 0 ? 1 : 0, to));
    }

    private static void postBothOne() {
        GlacierMail mail = ready();
        for (int person = 0; person < 3; person++) {
            int one = person;
            Check.argument("person " + one, () -> mail.post(one, one));
        }
        Check.same("none was thrown in", mail.count(4), 4);
        Check.index("both none", () -> mail.post(3, 3));
    }

    private static void postTwentyFour() {
        GlacierMail mail = ready();
        for (int letter = 4; letter < 24; letter++) {
            Check.same("letter", mail.post(0, 1), letter);
        }
        Check.unsupported("one more", () -> mail.post(0, 1));
        Check.same("24", mail.count(4), 24);
        mail.undo();
        Check.same("there is room again", mail.post(0, 1), 23);
        Check.unsupported("for one", () -> mail.post(0, 1));
    }

    private static void watch() {
        GlacierMail mail = ready();
        indexOf("people", 3, person -> mail.watch(person, 0));
        Check.same("it was", mail.watch(0, 1), 0);
        Check.same("none", mail.watch(0, -1), 1);
        Check.same("it was none", mail.watch(0, -1), -1);
        edgesOf("lane ", -1, 1, "IndexOutOfBoundsException", lane -> mail.watch(1, lane));
        Check.same("the last that was right", mail.person(1, 2), 1);
    }

    private static void open() {
        GlacierMail mail = ready();
        for (int none : new int[] {-1, 4, Integer.MIN_VALUE, Integer.MAX_VALUE}) {
            Check.index("no letter " + none, () -> mail.open(none));
        }
        mail.years(9);
        Check.same("years since", mail.open(2), 9);
        Check.same("by whom", mail.letter(2, 5), 2);
        mail.post(0, 2);
        mail.years(4);
        Check.same("years since it was thrown in, not since the first", mail.open(4), 4);
        Check.same("the log", mail.log(3, 0) * 100 + mail.log(3, 1) * 10 + mail.log(3, 2), 1342);
        GlacierMail late = ready();
        late.years(9);
        // asked first after a change of what is told
        Check.law(late, "slow 5 if year > 0");
        Check.state("in the ice by the flow of now", () -> late.open(2));
        Check.law(late, "");
        Check.same("out again", late.open(2), 9);
    }

    private static void openNot() {
        GlacierMail mail = ready();
        Check.state("thrown in NOW", () -> mail.open(1));
        mail.years(3);
        Check.state("in the ice", () -> mail.open(2));
        mail.years(1);
        Check.state("opened by whom it is to", () -> mail.open(1));
        Check.state("in the ice to year 5", () -> mail.open(3));
        Check.state("a rock in the ice", () -> mail.open(0));
        Check.law(mail, "fast 13");
        Check.state("a rock that is out", () -> mail.open(0));
        mail.open(2);
        Check.state("opened", () -> mail.open(2));
    }

    private static void years() {
        GlacierMail mail = ready();
        Check.same("1 is the least", mail.years(1), 0);
        Check.same("50 is the most: two are opened in these, in 4 and in 5", mail.years(50), 2);
        Check.same("NOW", mail.count(9), 51);
        Check.same("none any more", mail.years(50), 0);
        GlacierMail two = ready();
        two.watch(2, 0);
        Check.same("not ahead of year 4", two.years(3), 0);
        Check.same("two in one year", two.years(1), 2);
    }

    private static void yearsNone() {
        GlacierMail mail = ready();
        for (int n : new int[] {0, -1, 51, Integer.MIN_VALUE, Integer.MAX_VALUE}) {
            Check.argument(n + " years", () -> mail.years(n));
        }
        WayWords.laterBy(mail, 250);
        Check.argument("to 300", () -> mail.years(50));
        Check.same("NOW", mail.count(9), 250);
        Check.same("to 299", mail.years(49), 0);
        for (int n : new int[] {1, 50, 51, 0}) {
            Check.argument(n + " years more", () -> mail.years(n));
        }
        Check.same("NOW", mail.count(9), 299);
        mail.undo();
        Check.same("to 299 again", mail.years(49), 0);
    }

    private static void throwsFor() {
        GlacierMail mail = ready();
        indexOf("lanes", 2, lane -> mail.throwsFor(lane, 0, 1, 0));
        Check.same("how many", mail.throwsFor(0, 0, 2, 0), 5);
        Check.same("the least", mail.throwsFor(0, 0, 2, 1), 10);
        Check.same("the greatest", mail.throwsFor(0, 0, 2, 2), 14);
        Check.same("none: how many", mail.throwsFor(1, 0, 2, 0), 0);
        Check.same("none: the least, the greatest", mail.throwsFor(1, 0, 2, 1) * 10 + mail.throwsFor(1, 0, 2, 2), -11);
    }

    private static void throwsForYears() {
        GlacierMail mail = ready();
        yearsOf("thrown in", year -> mail.throwsFor(0, year, 299, 0));
        yearsOf("out", year -> mail.throwsFor(0, 0, year, 0));
        mail.years(8);
        Check.argument("ahead of NOW", () -> mail.throwsFor(0, 7, 9, 0));
        Check.same("NOW", mail.throwsFor(0, 8, 9, 0), 5);
        Check.same("the second may be ahead of NOW", mail.throwsFor(0, 8, 7, 0), 0);
        Check.same("and ahead of the first", mail.throwsFor(0, 9, 0, 1), -1);
    }

    private static void throwsForWhat() {
        GlacierMail mail = ready();
        whatsOf("throws", 2, what -> mail.throwsFor(0, 0, 2, what));
        whatsOf("no throws", 2, what -> mail.throwsFor(1, 0, 2, what));
    }

    private static void latest() {
        GlacierMail mail = ready();
        indexOf("people", 3, person -> mail.latest(person, 9));
        yearsOf("latest", year -> mail.latest(0, year));
        Check.same("three years ahead", mail.latest(1, 20), 17);
        Check.same("by the latest flood", mail.latest(2, 299), 9);
        Check.same("by the one before", mail.latest(2, 9), 4);
        Check.same("none", mail.latest(2, 4), -1);
    }

    private static void hut() {
        GlacierMail mail = ready();
        indexOf("lanes", 2, lane -> mail.hut(lane, 9));
        edgesOf("years ", 1, 299, "IllegalArgumentException", n -> mail.hut(0, n));
        Check.same("the row", mail.hut(0, 1), 15);
        Check.same("none", mail.hut(1, 1), -1);
        Check.same("none by 5 rows", mail.hut(1, 4), -1);
        Check.same("by the flood of year 4 from 17 on", mail.hut(1, 5), 17);
        Check.same("by both floods from 16 on", mail.hut(1, 299), 16);
    }

    private static void without() {
        GlacierMail mail = ready();
        indexOf("letters", 4, letter -> mail.without(letter, 0));
        indexOf("floods", 2, flood -> mail.without(1, flood));
        mail.years(2);
        mail.post(0, 1);
        // 0 5 10 18, out in 6; without 15 in 5, out in 6 as well
        Check.same("out", mail.letter(4, 7), 6);
        Check.same("without", mail.without(4, 0), 6);
        Check.same("none", mail.without(0, 1), -1);
        GlacierMail lip = Check.told("lanes 1;last 20;section 0 5;flood 2 0 5;flood 3 0 1;person 0 0;person 0 1");
        lip.post(0, 1);
        Check.same("a year later", lip.without(0, 0) * 10 + lip.letter(0, 7), 43);
        Check.same("no later", lip.without(0, 1), 3);
    }

    private static void moved() {
        GlacierMail mail = ready();
        indexOf("letters", 4, letter -> mail.moved(letter));
        Check.same("a rock by both", mail.moved(0), 4);
        Check.same("out ahead of them", mail.moved(1), 0);
        Check.same("19 and 3 are beyond", mail.moved(3), 3);
    }

    private static void lost() {
        GlacierMail mail = ready();
        // the rock comes from 7 to 11 alone, letter 3 by the flood from 19 beyond the LIP
        Check.same("the rock", mail.lost(), 1);
        mail.post(2, 1);
        Check.same("as ever", mail.lost(), 1);
        mail.years(10);
        mail.post(2, 1);
        Check.same("and what is thrown in behind the floods", mail.lost(), 1 + 32);
        mail.undo();
        Check.same("undone", mail.lost(), 1);
    }

    private static void market() {
        GlacierMail mail = ready();
        Check.same("both of 0 in 4", mail.market(false) * 10 + mail.market(true), 42);
        GlacierMail none = Check.told("person 0 0;person 1 1;rock 0 0");
        Check.same("none: the year", none.market(false), -1);
        Check.same("none: how many", none.market(true), 0);
        none.post(0, 1);
        Check.same("none ever out", none.market(false) * 10 + none.market(true), -10);
    }
}
