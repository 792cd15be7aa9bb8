import java.util.LinkedHashMap;
import java.util.Map;
import java.util.function.Supplier;

/** The end of the part headed ==== 3.: what is UNDONE, THE IMAGE, and what calls refuse. */
final class BackWords {
    /** What is done to an object; it may throw. */
    interface Act {
        int on(GlacierMail mail);
    }

    private BackWords() {
    }

    static void all() {
        Doc.says(Doc.WHAT, "An object is used for at most 512 calls after it has been made; what later calls answer is free.",
                BackWords::calls);
        Doc.says(Doc.ASKING, "UNDONE: the latest ACT not undone yet", BackWords::latest);
        Doc.says(Doc.ASKING, "(12 are remembered;", BackWords::twelve);
        Doc.says(Doc.ASKING, "YEARS of one call are one):", BackWords::yearsAreOne);
        Doc.says(Doc.ASKING, "all is as ahead of it", BackWords::asAhead);
        Doc.says(Doc.ASKING, "(but for the TAPE, fault(), THE IMAGE).", BackWords::butFor);
        Doc.says(Doc.ASKING, "A text, going back: none are remembered.", BackWords::noneRemembered);
        Doc.says(Doc.ASKING, "THE IMAGE (one) of all may be kept, and gone back to", BackWords::image);
        Doc.says(Doc.ASKING, "(but for the TAPE, fault() and THE IMAGE itself).", BackWords::butForTheImage);
        Doc.says(Doc.ASKING, "Of several exceptions the one told first is thrown;", BackWords::toldFirst);
        Doc.says(Doc.ASKING, "a call that throws changes nothing", BackWords::changesNothing);
        Doc.says(Doc.ASKING, "but the TAPE, where it is used up, and fault(), where a text is read (also by one that is"
                + " refused).", BackWords::tapeAndFault);
        Doc.says(Doc.ASKING, "IndexOutOfBoundsException: there is no such LANE, ROW (0 to LAST less 1), PERSON, LETTER, TABLE,"
                + " FLOOD.", BackWords::noSuchOne);
        Doc.says(Doc.ASKING, "IllegalArgumentException: a number is none (a YEAR: 0 to 299), or two are one.",
                BackWords::noSuchNumber);
        Doc.says(Doc.ASKING, "IllegalStateException: it cannot be.", BackWords::cannotBe);
        Doc.says(Doc.ASKING, "Sets are bits; of none they count for nothing.", BackWords::sets);
        askingChangesNothing();
    }

    /**
     * A valley with some of everything, THE IMAGE kept, four acts remembered (letter 2 is opened, letter 1 waits), the
     * fault 3, and 20 bytes on the TAPE, a law. Two lanes of 20 rows, three people, a rock, two letters, two floods.
     */
    private static GlacierMail ready() {
        GlacierMail mail = Texts.told("lanes 2;last 20;section 0 5 4;section 10 6 3;snow 5 fall 9;stripe 1;seed 7;"
                + "flood 3 0 2;flood 9 5 1;table 1 2;table 1 3;rock 1 5",
                "person 0 0 watch 1;person 1 5;person 0 10 watch 0");
        Check.law(mail, "open if person > 1 and lane > 0;fast 1 if row > 11");
        mail.post(0, 1);
        mail.image();
        mail.post(1, 0);
        mail.years(5);
        mail.watch(0, -1);
        Check.answer(() -> Check.law(mail, "ope"));
        Check.answer(() -> Check.law(mail, "   x"));
        Check.feedText(mail, "fast 3 if lane < 2  ");
        return mail;
    }

    private static void calls() {
        GlacierMail mail = Check.told("person 0 0;person 1 1");
        // six calls have been made: end, two times feed, end, valley, and this one
        Check.same("acts", mail.count(17), 0);
        for (int i = 6; i < 511; i += 5) {
            mail.watch(0, 0);
            mail.watch(0, i % 3);
            mail.watch(1, 2);
            mail.post(0, 1);
            mail.undo();
        }
        Check.same("the last of 512", mail.count(17), 11);
    }

    private static void latest() {
        GlacierMail mail = Check.told("person 0 0;person 1 1");
        Check.same("none", mail.undo(), false);
        mail.watch(0, 0);
        mail.post(0, 1);
        mail.years(2);
        Check.same("the years", mail.undo(), true);
        Check.same("alone", mail.count(9) * 100 + mail.count(4) * 10 + mail.person(0, 2), 10);
        mail.watch(0, 2);
        Check.same("what was done since", mail.undo(), true);
        Check.same("alone", mail.count(4) * 10 + mail.person(0, 2), 10);
        Check.same("the letter", mail.undo(), true);
        Check.same("alone", mail.count(4) * 10 + mail.person(0, 2), 0);
        Check.same("the watch", mail.undo(), true);
        Check.same("none", mail.person(0, 2), -1);
        Check.same("no more", mail.undo(), false);
    }

    private static void twelve() {
        for (int acts = 11; acts <= 14; acts++) {
            GlacierMail mail = Check.told("person 0 0;person 1 1");
            for (int i = 0; i < acts; i++) {
                mail.years(i + 1);
                Check.same("remembered", mail.count(17), Math.min(i + 1, 12));
            }
            int undone = 0;
            while (undone < 20 && mail.undo()) {
                undone++;
            }
            Check.same("of " + acts, undone, Math.min(acts, 12));
            Check.same("the years of the first are left", mail.count(9), acts == 13 ? 1 : acts == 14 ? 3 : 0);
            Check.same("none is remembered", mail.count(17), 0);
        }
        GlacierMail on = Check.told("person 0 0;person 1 1");
        for (int i = 0; i < 30; i++) {
            on.watch(0, i % 3);
            on.watch(1, i % 2);
            on.undo();
        }
        Check.same("an undone one makes room", on.count(17), 11);
        on.watch(0, 0);
        Check.same("for one", on.count(17), 12);
        on.watch(0, 0);
        Check.same("and no more", on.count(17), 12);
    }

    private static void yearsAreOne() {
        GlacierMail mail = Check.told("lanes 1;last 10;section 0 3;person 0 0 watch 0;person 0 1 watch 0");
        mail.post(0, 1);
        mail.post(1, 0);
        Check.same("two are opened in these", mail.years(50), 2);
        Check.same("one act", mail.count(17), 3);
        mail.undo();
        Check.same("all fifty", mail.count(9), 0);
        Check.same("and what was opened in them", mail.count(14), 0);
        Check.same("two are left", mail.count(17), 2);
    }

    private static void asAhead() {
        Map<String, Act> acts = new LinkedHashMap<>();
        acts.put("post", mail -> mail.post(2, 0));
        acts.put("watch", mail -> mail.watch(2, 1));
        acts.put("watch that changes nothing", mail -> mail.watch(0, -1));
        acts.put("open", mail -> mail.open(1));
        acts.put("years", mail -> mail.years(1));
        acts.put("years in which some are opened", mail -> {
            mail.watch(1, 0);
            int opened = mail.years(3);
            Check.same("one is opened", opened, 1);
            return opened;
        });
        for (Map.Entry<String, Act> act : acts.entrySet()) {
            GlacierMail mail = ready();
            mail.years(9);
            String before = Picture.of(mail);
            int remembered = mail.count(17);
            act.getValue().on(mail);
            while (mail.count(17) > remembered) {
                Check.same("undone", mail.undo(), true);
            }
            Check.same(act.getKey() + " undone", Picture.of(mail), before);
        }
    }

    private static void butFor() {
        GlacierMail mail = Check.told("person 0 0;person 1 1");
        mail.post(0, 1);
        Check.wrongLaw(mail, "fast", 4);
        Check.feedText(mail, "12345678901234567890");
        mail.image();
        Check.same("undone", mail.undo(), true);
        Check.same("the TAPE is as it was", mail.end(20), true);
        Check.same("and no longer", mail.end(21), false);
        Check.same("fault() is as it was", mail.fault(), 4);
        Check.same("THE IMAGE, too", mail.back(), true);
        Check.same("that of the act undone", mail.count(4), 1);
    }

    private static void noneRemembered() {
        Map<String, Act> texts = new LinkedHashMap<>();
        texts.put("a text of the valley", mail -> Check.valley(mail, "seed 5"));
        texts.put("an empty text of the valley", mail -> Check.valley(mail, ""));
        texts.put("a law", mail -> Check.law(mail, "open"));
        texts.put("an empty law", mail -> Check.law(mail, ""));
        texts.put("going back", mail -> mail.back() ? 1 : 0);
        for (Map.Entry<String, Act> text : texts.entrySet()) {
            GlacierMail mail = ready();
            Check.same("four acts", mail.count(17), 4);
            text.getValue().on(mail);
            Check.same(text.getKey() + ": none", mail.count(17), 0);
            Check.same(text.getKey() + ": none to undo", mail.undo(), false);
            mail.watch(1, 0);
            Check.same(text.getKey() + ": the next is one", mail.count(17), 1);
        }
        GlacierMail mail = ready();
        Check.answer(() -> Check.valley(mail, "x"));
        Check.answer(() -> Check.law(mail, "x"));
        Check.answer(() -> Check.fit(mail, 9));
        Check.fit(mail, 0, 1);
        mail.image();
        Check.same("but by wrong texts, readings, and keeping an image all are", mail.count(17), 4);
        GlacierMail none = Check.told("person 0 0");
        none.watch(0, 0);
        none.back();
        Check.same("and by going back to none", none.count(17), 1);
    }

    private static void image() {
        GlacierMail mail = ready();
        String before = Picture.of(mail);
        mail.image();
        Check.same("keeping it changes nothing", Picture.of(mail), before);
        mail.years(20);
        mail.post(2, 1);
        mail.watch(1, 1);
        mail.end(0);
        Check.valley(mail, "section 15 9 9;snow 3 fall 3;stripe 2;seed 8;flood 200 0 1;table 1 4;rock 0 0;person 0 3");
        Check.law(mail, "fast 9");
        Check.wrongLaw(mail, "   x", 3);
        Check.same("back", mail.back(), true);
        // but for the acts that are remembered, of which there are none
        Check.same("all is as it was", Picture.of(mail), before.replaceFirst(" 4; speed", " 0; speed"));
        GlacierMail one = new GlacierMail();
        one.image();
        Check.valley(one, "lanes 6;last 99;section 0 1 1 1 1 1 1");
        Check.law(one, "fast 1");
        Check.same("to a new object", one.back(), true);
        Check.same("its lanes", one.count(0) * 100 + one.count(1), 340);
        Check.same("its law", one.count(8), -1);
        Check.same("its texts", one.count(7), 0);
        Check.same("its speeds", one.speed(0, 0) + one.flow(0, 0, 0), 0);
        one.years(3);
        one.image();
        one.years(3);
        one.back();
        Check.same("one alone: the later", one.count(9), 3);
        one.image();
        one.years(1);
        one.back();
        Check.same("the same again", one.count(9), 3);
        GlacierMail floods = new GlacierMail();
        floods.image();
        Check.valley(floods, "flood 1 0 20;rock 0 0");
        floods.back();
        Check.valley(floods, "flood 4 0 3;rock 0 0");
        Check.same("no flood is left of what was left", floods.where(0, 4) * 10 + floods.where(0, 5), 3);
    }

    private static void butForTheImage() {
        GlacierMail mail = Check.told("person 0 0;person 1 1");
        mail.image();
        mail.years(4);
        Check.wrongLaw(mail, "fast", 4);
        Check.feedText(mail, "12345678901234567890");
        Check.same("back", mail.back(), true);
        Check.same("the TAPE is as it was", mail.end(20), true);
        Check.same("and no longer", mail.end(21), false);
        Check.same("fault() is as it was", mail.fault(), 4);
        mail.years(7);
        Check.same("THE IMAGE is still kept", mail.back(), true);
        Check.same("the same", mail.count(9), 0);
    }

    private static void toldFirst() {
        GlacierMail mail = ready();
        int many = mail.count(4);
        Check.index("flow: lane, year", () -> mail.flow(2, 0, 300));
        Check.index("flow: row, year", () -> mail.flow(0, 20, -1));
        Check.index("person: person, what", () -> mail.person(3, 6));
        Check.index("letter: letter, what", () -> mail.letter(many, 10));
        Check.index("where: letter, year", () -> mail.where(many, 300));
        Check.index("deep: letter, year", () -> mail.deep(-1, 300));
        Check.index("post: both one that is none", () -> mail.post(3, 3));
        Check.index("throwsFor: lane, years, what", () -> mail.throwsFor(2, -1, 300, 3));
        Check.argument("throwsFor: year, what", () -> mail.throwsFor(0, 0, 9, 3));
        Check.argument("throwsFor: out, what", () -> mail.throwsFor(0, 9, 300, -1));
        Check.index("latest: person, year", () -> mail.latest(3, 300));
        Check.index("hut: lane, n", () -> mail.hut(2, 0));
        Check.index("writers: lane, year, deep", () -> mail.writers(2, 300, 100));
        Check.index("wrote: person, year", () -> mail.wrote(3, 0, 300, 0));
        Check.index("wrote: lane, deep", () -> mail.wrote(0, 2, 0, 100));
        Check.index("soonest: both one that is none", () -> mail.soonest(3, 3, true));
        Check.index("chain: person, k", () -> mail.chain(0, 3, -1));
        Check.index("chain: both one that is none", () -> mail.chain(-1, -1, 0));
        Check.index("reached: person, year", () -> mail.reached(3, 300));
        Check.index("meeting: both one that is none", () -> mail.meeting(many, many));
        Check.index("range: lane, year", () -> mail.range(2, 300));
        Check.index("swiftest: row, year", () -> mail.swiftest(20, 300));
        Check.index("open: none, that cannot be", () -> mail.open(many));
        GlacierMail full = Texts.told("person 0 0;person 1 1", Texts.times(12, "rock 0 0"), Texts.times(12, "rock 0 0"));
        Check.index("post: none, and no room", () -> full.post(0, 2));
        Check.argument("post: both one, and no room", () -> full.post(1, 1));
        Check.unsupported("post: no room", () -> full.post(0, 1));
        for (int i = 4; i <= 12; i++) {
            Check.valley(full, "");
        }
        Check.wrongValley(full, "x", 0);
        Check.unsupported("valley: right, and no room", () -> Check.valley(full, ""));
    }

    private static Map<String, Act> refused() {
        Map<String, Act> calls = new LinkedHashMap<>();
        calls.put("heat", mail -> mail.heat(300));
        calls.put("speed", mail -> mail.speed(0, 20));
        calls.put("flow", mail -> mail.flow(0, 0, 300));
        calls.put("person", mail -> mail.person(0, 6));
        calls.put("letter", mail -> mail.letter(1, 10));
        calls.put("where", mail -> mail.where(1, 300));
        calls.put("deep", mail -> mail.deep(1, -1));
        calls.put("post to none", mail -> mail.post(0, 3));
        calls.put("post to oneself", mail -> mail.post(1, 1));
        calls.put("watch", mail -> mail.watch(0, 2));
        calls.put("watch by none", mail -> mail.watch(3, 0));
        calls.put("open a rock", mail -> mail.open(0));
        calls.put("open none", mail -> mail.open(3));
        calls.put("years", mail -> mail.years(51));
        calls.put("no years", mail -> mail.years(0));
        calls.put("throwsFor", mail -> mail.throwsFor(0, 4, 9, 0));
        calls.put("throwsFor what", mail -> mail.throwsFor(0, 5, 9, 3));
        calls.put("latest", mail -> mail.latest(0, 300));
        calls.put("hut", mail -> mail.hut(0, 0));
        calls.put("without", mail -> mail.without(1, 2));
        calls.put("moved", mail -> mail.moved(3));
        calls.put("passes", mail -> mail.passes(-1));
        calls.put("writers", mail -> mail.writers(0, 9, 100));
        calls.put("wrote", mail -> mail.wrote(0, 0, 300, 0));
        calls.put("table", mail -> mail.table(2, 0));
        calls.put("apart", mail -> mail.apart(0, 2, 1) ? 1 : 0);
        calls.put("soonest", mail -> mail.soonest(0, 0, true));
        calls.put("chain", mail -> mail.chain(0, 1, -1));
        calls.put("reached", mail -> mail.reached(0, 300));
        calls.put("thieves", mail -> mail.thieves(31, true));
        calls.put("watchman", mail -> mail.watchman(0, true));
        calls.put("meeting", mail -> mail.meeting(1, 1));
        calls.put("outs", mail -> mail.outs(300));
        calls.put("streams", mail -> mail.streams(-1, true));
        calls.put("range", mail -> mail.range(0, 300));
        calls.put("swiftest", mail -> mail.swiftest(20, 0));
        calls.put("bare", mail -> mail.bare(300));
        calls.put("log", mail -> mail.log(0, 3));
        return calls;
    }

    private static void changesNothing() {
        String before = Picture.whole(BackWords::ready);
        Check.same("what is asked about", before.contains("tape 20; undone true") && before.contains("back true")
                && before.contains("law 1 -1 88"), true);
        for (Map.Entry<String, Act> call : refused().entrySet()) {
            GlacierMail mail = ready();
            Object thrown = Check.answer(() -> call.getValue().on(mail));
            Check.same(call.getKey() + " throws", thrown.toString().endsWith("Exception"), true);
            Check.same(call.getKey() + " changes nothing", Picture.whole(() -> mail), before);
        }
        Check.same("an end that is none", after(mail -> mail.end(21) || mail.end(-1) ? 1 : 0), before);
        Check.same("undoing none", Picture.whole(BackWords::lawless), Picture.whole(() -> {
            GlacierMail mail = lawless();
            Check.same("none", mail.undo() || mail.back(), false);
            return mail;
        }));
    }

    private static String after(Act act) {
        return Picture.whole(() -> {
            GlacierMail mail = ready();
            act.on(mail);
            return mail;
        });
    }

    private static GlacierMail lawless() {
        GlacierMail mail = Check.told("person 0 0;person 1 1;rock 0 0");
        Check.feedText(mail, "fast 3 if lane < 2  ");
        return mail;
    }

    private static void tapeAndFault() {
        Supplier<GlacierMail> used = () -> {
            GlacierMail mail = ready();
            mail.end(0);
            return mail;
        };
        String before = Picture.whole(used).replaceAll("fault -?\\d+", "fault");
        String[] wrong = {"lanes 2", "section 15 1 1;person 0 0;flood 9 0 1;seed 3;rock 0 0;snow 1 fall 1;stripe 0;x", "seed"};
        for (String text : wrong) {
            GlacierMail mail = used.get();
            Check.wrongValley(mail, text, text.equals("lanes 2") ? 0 : text.equals("seed") ? 4 : text.length() - 1);
            Check.same("valley of '" + text + "'", Picture.whole(() -> mail).replaceAll("fault -?\\d+", "fault"), before);
        }
        GlacierMail law = used.get();
        Check.wrongLaw(law, "fast 9;slow 9;open;fast 21", 24);
        Check.same("a wrong law", Picture.whole(() -> law).replaceAll("fault -?\\d+", "fault"), before);
        GlacierMail fit = used.get();
        Check.argument("wrong readings", () -> Check.fit(fit, 0, 21));
        Check.same("use the TAPE up", fit.end(1), false);
        Check.same("but are no text that is read", fit.fault(), 3);
        Check.same("wrong readings", Picture.whole(() -> fit).replaceAll("fault -?\\d+", "fault"), before);
        GlacierMail full = ready();
        full.end(0);
        for (int i = 3; i <= 12; i++) {
            Check.valley(full, "");
        }
        full.image();
        full.post(0, 2);
        Check.wrongLaw(full, "x", 0);
        String ahead = Picture.of(full);
        Check.unsupported("a 13th text", () -> Check.valley(full, "seed 3;rock 0 0;section 15 1 1"));
        Check.same("a right text is read, and has no fault", full.fault(), -1);
        Check.same("the TAPE is used up", full.end(1), false);
        Check.same("nothing else", Picture.of(full), ahead.replaceFirst("fault 0", "fault -1"));
        GlacierMail twelve = full;
        Check.wrongValley(twelve, "seed 3;x", 7);
        Check.unsupported("and a right one again", () -> Check.valley(twelve, "seed 3"));
        Check.same("no fault again", twelve.fault(), -1);
    }

    private static void noSuchOne() {
        GlacierMail mail = ready();
        for (int none : new int[] {-1, Integer.MIN_VALUE, Integer.MAX_VALUE}) {
            Check.index("lane " + none, () -> mail.speed(none, 0));
            Check.index("row " + none, () -> mail.speed(0, none));
            Check.index("person " + none, () -> mail.person(none, 0));
            Check.index("letter " + none, () -> mail.letter(none, 0));
            Check.index("table " + none, () -> mail.table(none, 0));
            Check.index("flood " + none, () -> mail.without(0, none));
        }
        Check.index("lane 2 of 2", () -> mail.speed(2, 0));
        Check.index("row 20: LAST", () -> mail.speed(0, 20));
        Check.same("row 19", mail.speed(0, 19), 6);
        Check.index("person 3 of 3", () -> mail.person(3, 0));
        Check.same("person 2", mail.person(2, 1), 10);
        Check.index("letter 3 of 3", () -> mail.letter(3, 0));
        Check.same("letter 2", mail.letter(2, 0), 1);
        Check.index("table 2 of 2", () -> mail.table(2, 0));
        Check.same("table 1", mail.table(1, 1), 3);
        Check.index("flood 2 of 2", () -> mail.without(0, 2));
        Check.same("flood 1", Check.answer(() -> mail.without(0, 1)) instanceof Integer, true);
        GlacierMail none = new GlacierMail();
        Check.index("no person", () -> none.person(0, 0));
        Check.index("no letter", () -> none.letter(0, 0));
        Check.index("no table", () -> none.table(0, 0));
        Check.index("no flood", () -> Check.told("rock 0 0").without(0, 0));
    }

    private static void noSuchNumber() {
        GlacierMail mail = ready();
        for (int year : new int[] {-1, 300, Integer.MIN_VALUE, Integer.MAX_VALUE}) {
            Check.argument("heat " + year, () -> mail.heat(year));
            Check.argument("outs " + year, () -> mail.outs(year));
            Check.argument("bare " + year, () -> mail.bare(year));
        }
        for (int year : new int[] {0, 299}) {
            Check.same("a year " + year, Check.answer(() -> mail.outs(year)) instanceof Integer, true);
        }
        Check.argument("two people that are one", () -> mail.post(2, 2));
        Check.argument("two letters that are one", () -> mail.meeting(0, 0));
        Check.same("two tables may be one", mail.apart(0, 0, 3), false);
    }

    private static void cannotBe() {
        // three years each; letter 0 is to one who watches, letter 1 to one who does not
        GlacierMail mail = Check.told("lanes 1;last 10;section 0 3;person 0 1;person 0 1 watch 0;rock 0 9");
        mail.post(0, 1);
        mail.post(1, 0);
        for (int year = 0; year < 3; year++) {
            Check.state("in the ice in " + year, () -> mail.open(2));
            mail.years(1);
        }
        Check.state("opened by whom it is to, as it came out", () -> mail.open(1));
        Check.state("a rock", () -> mail.open(0));
        Check.same("it waits", mail.open(2), 3);
        Check.state("opened by that one", () -> mail.open(2));
        mail.undo();
        Check.same("not any more", mail.open(2), 3);
    }

    private static void sets() {
        GlacierMail mail = Check.told("lanes 2;table 1 2;table 1 3");
        Check.same("lane 1", mail.apart(0, 1, 2), true);
        Check.same("lane 1, and lanes that are none", mail.apart(0, 1, ~1), true);
        Check.same("lanes that are none alone", mail.apart(0, 1, ~3), false);
        Check.same("lane 0, and lanes that are none", mail.apart(0, 1, ~2), false);
        Check.same("a set of all that can be", mail.apart(0, 1, Integer.MAX_VALUE), true);
        Check.same("the least number", mail.apart(0, 1, Integer.MIN_VALUE), false);
        Check.same("a set of none", mail.apart(0, 1, 0), false);
    }

    /** What is only asked leaves all as it is. */
    private static void askingChangesNothing() {
        String before = Picture.whole(BackWords::ready);
        GlacierMail mail = ready();
        mail.writers(0, 9, 0);
        mail.wrote(0, 0, 9, 0);
        mail.throwsFor(0, 5, 9, 0);
        mail.latest(0, 20);
        mail.hut(0, 4);
        mail.passes(1);
        mail.poles();
        mail.apart(0, 1, 2);
        mail.soonest(0, 1, true);
        mail.chain(0, 2, 1);
        mail.reached(1, 30);
        mail.thieves(30, true);
        mail.watchman(30, true);
        mail.meeting(0, 2);
        mail.outs(5);
        mail.order(0);
        mail.streams(9, true);
        mail.range(1, 7);
        mail.swiftest(3, 7);
        mail.bare(6);
        mail.lost();
        mail.market(true);
        Check.same("asking changes nothing", Picture.whole(() -> mail), before);
    }
}
