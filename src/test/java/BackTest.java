/** Promises 44 to 48: the log, undoing, the image, and numbers. */
public final class BackTest {
    public static void main(String[] args) {
        log();
        undoing();
        undoingLetters();
        twelveActs();
        textsEndUndoing();
        refusedCallsAreNoActs();
        image();
        numbers();
        Check.finish();
    }

    private static final String VALLEY = "lanes 2;last 10;section 0 5 4;person 0 0 watch 1;person 1 0 watch 0;"
            + "person 0 5 watch 0";

    private static void log() {
        GlacierMail mail = Check.told(VALLEY);
        mail.post(0, 1);
        mail.post(1, 0);
        mail.post(2, 1);
        Check.same("years", mail.years(3), 3);
        int[][] due = {{1, 2, 1}, {2, 0, 1}, {3, 1, 0}, {-1, -1, -1}};
        for (int k = 0; k < due.length; k++) {
            for (int what = 0; what < 3; what++) {
                Check.same("log " + k + " " + what, mail.log(k, what), due[k][what]);
            }
        }
        Check.same("log -1", mail.log(-1, 0), -1);
        Check.same("log far", mail.log(Integer.MAX_VALUE, 2), -1);
        Check.element("what 3", () -> mail.log(0, 3));
        Check.element("what -1", () -> mail.log(99, -1));
    }

    private static void undoing() {
        GlacierMail mail = Check.told(VALLEY);
        Check.same("none", mail.undo(), false);
        mail.post(0, 1);
        mail.watch(1, 1);
        mail.years(50);
        Check.same("nobody opened", mail.count(14), 0);
        mail.open(0);
        Check.same("acts", mail.count(17), 4);
        Check.same("opening undone", mail.undo(), true);
        Check.same("not opened", mail.letter(0, 5), -1);
        Check.same("nor told when", mail.letter(0, 6), -1);
        Check.same("log", mail.log(0, 0), -1);
        Check.same("opened", mail.count(14), 0);
        Check.same("all years of a call undone", mail.undo(), true);
        Check.same("now", mail.count(9), 0);
        Check.same("watching undone", mail.undo(), true);
        Check.same("watches", mail.person(1, 2), 0);
        Check.same("years that open", mail.years(2), 1);
        Check.same("these undone", mail.undo(), true);
        Check.same("not opened", mail.count(14), 0);
        Check.same("posting undone", mail.undo(), true);
        Check.same("letters", mail.count(4), 0);
        Check.same("no more", mail.undo(), false);
        Check.same("watch that changes nothing", mail.watch(0, 1), 1);
        Check.same("is an act", mail.count(17), 1);
        Check.feedText(mail, "12345678901234567890");
        mail.image();
        mail.undo();
        Check.same("the tape stays", mail.end(20), true);
        Check.same("the image stays", mail.back(), true);
    }

    private static void undoingLetters() {
        GlacierMail mail = Check.told("lanes 2;last 10;section 0 5 0;person 0 0 watch 0;person 1 0 watch 1");
        mail.post(1, 0);
        Check.same("one is lost", mail.lost(), 1);
        mail.undo();
        Check.same("none is lost", mail.lost(), 0);
        Check.same("none comes", mail.order(0), -1);
        mail.post(0, 1);
        Check.same("the new one is out", mail.outs(2), 1);
        mail.undo();
        Check.same("none is out", mail.outs(2), 0);
        mail.post(1, 0);
        Check.same("none is out of the lost one", mail.outs(2), 0);
        Check.same("it is in the ice", mail.count(16), 1);
    }

    private static void twelveActs() {
        GlacierMail mail = Check.told(VALLEY);
        for (int i = 1; i <= 14; i++) {
            mail.years(i);
            Check.same("acts", mail.count(17), Math.min(12, i));
        }
        Check.same("now", mail.count(9), 105);
        int now = 105;
        for (int i = 14; i > 2; i--) {
            Check.same("undone " + i, mail.undo(), true);
            now -= i;
            Check.same("now", mail.count(9), now);
        }
        Check.same("the first two are forgotten", mail.undo(), false);
        Check.same("now", mail.count(9), 3);
        mail.post(0, 1);
        mail.watch(0, -1);
        mail.undo();
        mail.watch(0, 0);
        Check.same("two", mail.count(17), 2);
        mail.undo();
        Check.same("the watch of the valley", mail.person(0, 2), 1);
        Check.same("the letter", mail.count(4), 1);
    }

    private static void textsEndUndoing() {
        GlacierMail mail = Check.told(VALLEY);
        mail.post(0, 1);
        Check.wrongValley(mail, "x", 0);
        Check.wrongLaw(mail, "x", 0);
        Check.argument("fit", () -> Check.fit(mail, 9));
        Check.fit(mail);
        Check.same("a wrong text changes nothing", mail.count(17), 1);
        Check.same("nor does going back to none", mail.back(), false);
        Check.same("one act", mail.count(17), 1);
        Check.valley(mail, "");
        Check.same("a text", mail.count(17), 0);
        Check.same("nothing to undo", mail.undo(), false);
        mail.post(0, 1);
        Check.law(mail, "");
        Check.same("a law", mail.count(17), 0);
        mail.image();
        mail.post(0, 1);
        mail.image();
        Check.same("an image is none of these", mail.count(17), 1);
        mail.back();
        Check.same("going back", mail.count(17), 0);
        for (int i = mail.count(7); i < 12; i++) {
            Check.valley(mail, "");
        }
        mail.post(0, 1);
        Check.unsupported("a 13th text", () -> Check.valley(mail, ""));
        Check.same("refused: all is remembered", mail.count(17), 1);
    }

    private static void refusedCallsAreNoActs() {
        GlacierMail mail = Check.told(VALLEY);
        mail.post(0, 1);
        Check.argument("post", () -> mail.post(0, 0));
        Check.index("watch", () -> mail.watch(0, 2));
        Check.state("open", () -> mail.open(0));
        Check.argument("years", () -> mail.years(51));
        Check.same("acts", mail.count(17), 1);
    }

    private static void image() {
        GlacierMail mail = Check.told(VALLEY);
        Check.same("none was kept", mail.back(), false);
        Check.law(mail, "fast 1");
        mail.post(0, 1);
        mail.years(1);
        mail.image();
        int flow = mail.flow(0, 0, 0);
        mail.years(5);
        Check.same("opened", mail.count(14), 1);
        Check.valley(mail, "seed 77;flood 50 0 1;table 1 1;section 5 1 1;stripe 1;snow 3 fall 3;rock 0 0;person 1 1");
        Check.law(mail, "fast 2;open");
        Check.wrongValley(mail, "seed", 4);
        Check.feedText(mail, "1234");
        Check.same("back", mail.back(), true);
        int[] due = {2, 10, 1, 3, 1, 0, 0, 1, 1, 1, 10, 2, 2, 1, 0, 0, 1, 0};
        for (int what = 0; what < due.length; what++) {
            Check.same("back: count " + what, mail.count(what), due[what]);
        }
        Check.same("flow", mail.flow(0, 0, 0), flow);
        Check.same("heat", mail.heat(0), 8);
        Check.same("the tape stays", mail.end(4), true);
        Check.same("nothing more is on it", mail.end(5), false);
        Check.same("fault stays", mail.fault(), 4);
        mail.years(9);
        Check.same("back again", mail.back(), true);
        Check.same("now", mail.count(9), 1);
        mail.years(9);
        mail.image();
        mail.years(9);
        mail.back();
        Check.same("the later image", mail.count(9), 10);
        Check.same("the log of it", mail.log(0, 0), 2);
    }

    private static void numbers() {
        GlacierMail mail = Check.told("lanes 5;last 12;section 0 6 6 6 0 6;section 3 5 5 5 0 5;person 0 0 watch 0;"
                + "person 0 1 watch 1;rock 1 0;rock 3 0;flood 200 0 1;table 1 1 1 1 1;snow 4 fall 5;stripe 2;seed 12");
        Check.law(mail, "slow 0;slow 0;slow 0");
        mail.post(0, 1);
        mail.post(1, 0);
        mail.years(2);
        mail.years(2);
        // letter 2 is out in 3 and waits for 1, letter 3 as well and 0 opened it; rock 0 is out, rock 1 stands
        int[] due = {5, 12, 2, 2, 4, 1, 1, 1, 3, 4, 4, 5, 2, 12, 1, 1, 1, 4};
        for (int what = 0; what < due.length; what++) {
            Check.same("count " + what, mail.count(what), due[what]);
        }
        Check.same("count 18", mail.count(18), -1);
        Check.same("count far", mail.count(Integer.MAX_VALUE), -1);
        Check.same("count below", mail.count(Integer.MIN_VALUE), -1);
    }
}
