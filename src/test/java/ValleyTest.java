/** Promises 4 and 6: the texts of THE VALLEY and their first wrong bytes. */
public final class ValleyTest {
    public static void main(String[] args) {
        lines();
        blanks();
        wrongTexts();
        tooMany();
        onlyWhileEmpty();
        nothingStays();
        twelveTexts();
        byYear();
        Check.finish();
    }

    private static void lines() {
        GlacierMail mail = new GlacierMail();
        Check.same("valley", Check.valley(mail, "lanes 6;last 99;section 0 1 2 3 4 5 6;section 98 20 0 0 0 0 0;"
                + "snow 98 fall 9;stripe 6;seed 9999;flood 299 98 20;person 5 98 watch 5;person 0 0;rock 5 98;"
                + "table 0 0 0 0 0 20;stripe 0;seed 0"), 1);
        int[] due = {6, 99, 2, 2, 1, 1, 1, 1, -1, 0, 98, 9, 0, 0, 0, 0, 1, 0};
        for (int what = 0; what < due.length; what++) {
            Check.same("count " + what, mail.count(what), due[what]);
        }
        Check.same("count 18", mail.count(18), -1);
        Check.same("count -1", mail.count(-1), -1);
        Check.same("speed", mail.speed(5, 97), 6);
        Check.same("speed further", mail.speed(0, 98), 20);
        Check.same("person 0 watches", mail.person(0, 2), 5);
        Check.same("person 1 watches", mail.person(1, 2), -1);
        Check.same("table", mail.table(0, 5), 20);
        Check.same("another text", Check.valley(mail, "person 1 1"), 2);
        Check.same("people", mail.count(3), 3);
        Check.same("lanes tell the stripe", Check.told("stripe 1;lanes 5").count(12), 5);
        Check.same("last tells the snow", Check.told("snow 30 fall 1;last 15").count(10), 10);
        Check.same("last leaves the fall", Check.told("snow 30 fall 1;last 15").count(11), 1);
        Check.same("no fall", Check.told("snow 0 fall 0").count(11), 0);
        Check.same("lanes leave the snow", Check.told("snow 30 fall 1;lanes 2").count(10), 30);
    }

    private static void blanks() {
        Check.same("no blanks", Check.told("lanes2;last10;section0 1 1;snow1fall2;person0 0watch1").count(10), 1);
        Check.same("many blanks", Check.told("   seed    12   ;   seed   13   ").count(13), 13);
        Check.same("empty", Check.told("").count(7), 1);
        Check.same("blanks alone", Check.told("     ").count(7), 1);
        Check.same("four digits", Check.told("lanes 0002").count(0), 2);
    }

    private static void wrongTexts() {
        GlacierMail mail = new GlacierMail();
        Check.wrongValley(mail, ";", 0);
        Check.wrongValley(mail, "  ;", 2);
        Check.wrongValley(mail, "seed 1;;seed 2", 7);
        Check.wrongValley(mail, "seed 1 ;  ", 10);
        Check.wrongValley(mail, "seed", 4);
        Check.wrongValley(mail, "seed   ", 7);
        Check.wrongValley(mail, "seed 00001", 5);
        Check.wrongValley(mail, "seed 1 2", 7);
        Check.wrongValley(mail, "seed x", 5);
        Check.wrongValley(mail, "Seed 1", 0);
        Check.wrongValley(mail, "seeds 1", 0);
        Check.wrongValley(mail, "seedz 1", 0);
        Check.wrongValley(mail, "deed 1", 0);
        Check.wrongValley(mail, "seer 1", 0);
        Check.wrongValley(mail, "see 1", 0);
        Check.wrongValley(mail, "seed -1", 5);
        Check.wrongValley(mail, "seed 1\n", 6);
        Check.wrongValley(mail, "seed 1" + (char) 0, 6);
        Check.wrongValley(mail, "seed 1" + (char) 233, 6);
        Check.wrongValley(mail, "7", 0);
        Check.wrongValley(mail, "snow 1 fal 2", 7);
        Check.wrongValley(mail, "snow 1 2", 7);
        Check.wrongValley(mail, "person 0 0 foo", 11);
        Check.wrongValley(mail, "person 0 0 watch", 16);
        Check.wrongValley(mail, "person 0 0 watch 1 2", 19);
        Check.wrongValley(mail, "snow 1 fall 10", 12);
        Check.wrongValley(mail, "section 0 1 1 1 1", 16);
        Check.wrongValley(mail, "section 1 1 1 1", 8);
        Check.wrongValley(mail, "section 0 1 1 21", 14);
        Check.wrongValley(mail, "section 0 1 1 1;section 39 1 1 1;section 40 1 1 1", 41);
        Check.wrongValley(mail, "section 0 1 1 1;section 5 1 1 1;section 5 1 1 1", 40);
        Check.wrongValley(mail, "table 1 1 21", 10);
        Check.wrongValley(mail, "table 1 1 1 1", 12);
        Check.wrongValley(mail, "rock 3 0", 5);
        Check.wrongValley(mail, "rock 0", 6);
        Check.wrongValley(mail, "flood 0 0 0", 10);
        Check.wrongValley(mail, "flood 0 0", 9);
        Check.wrongValley(mail, "flood 0 0 21", 10);
        Check.wrongValley(mail, "flood 300 0 1", 6);
        Check.wrongValley(mail, "flood 0 40 1", 8);
        Check.wrongValley(mail, "lanes 0", 6);
        Check.wrongValley(mail, "lanes 7", 6);
        Check.wrongValley(mail, "last 9", 5);
        Check.wrongValley(mail, "last 100", 5);
        Check.wrongValley(mail, "flood 9999 0 1", 6);
        Check.wrongValley(mail, "lanes 2;stripe 3", 15);
        Check.wrongValley(mail, "last 10;snow 10 fall 1", 13);
        Check.same("all as ever", mail.count(7), 0);
        Check.valley(mail, "seed 1");
        Check.same("no fault any more", mail.fault(), -1);
    }

    private static String times(String line, int n) {
        return String.join(";", java.util.Collections.nCopies(n, line));
    }

    private static void tooMany() {
        GlacierMail mail = new GlacierMail();
        Check.same("14 lines", Check.valley(mail, times("seed 1", 14)), 1);
        Check.wrongValley(mail, times("seed 1", 14) + ";", 98);
        Check.wrongValley(mail, times("seed 1", 14) + ";  x", 100);
        Check.wrongValley(mail, times("seed 1", 15), 98);
        Check.valley(mail, "section 0 1 1 1;section 1 1 1 1;section 2 1 1 1;section 3 1 1 1;section 4 1 1 1;"
                + "section 5 1 1 1;section 6 1 1 1;section 7 1 1 1");
        Check.wrongValley(mail, " section 8 1 1 1", 1);
        Check.valley(mail, times("flood 1 1 1", 8));
        Check.wrongValley(mail, "seed 1; flood 1 1 1", 8);
        Check.valley(mail, times("person 1 1", 8));
        Check.wrongValley(mail, "person 1 1", 0);
        Check.valley(mail, times("table 1 1 1", 6));
        Check.wrongValley(mail, "table 1 1 1", 0);
        Check.valley(mail, times("rock 1 1", 12));
        Check.valley(mail, times("rock 1 1", 11));
        Check.wrongValley(mail, "rock 0 0;rock 1 1", 9);
        mail.post(0, 1);
        Check.wrongValley(mail, "rock 1 1", 0);
        Check.same("letters", mail.count(4), 24);
        Check.same("sections", mail.count(2), 8);
        Check.same("floods", mail.count(5), 8);
        Check.same("people", mail.count(3), 8);
        Check.same("tables", mail.count(6), 6);
    }

    private static void onlyWhileEmpty() {
        String[] lines = {"section 0 1 1 1", "flood 1 1 1", "person 0 0", "rock 0 0", "table 1 1 1"};
        for (String line : lines) {
            GlacierMail mail = Check.told(line);
            Check.wrongValley(mail, "lanes 3", 0);
            Check.wrongValley(mail, " last 40", 1);
            Check.wrongValley(new GlacierMail(), line + ";last 40", line.length() + 1);
        }
        for (String line : lines) {
            for (String other : lines) {
                if (!line.equals(other)) {
                    Check.wrongValley(Check.told(line + ";" + other), "lanes 3", 0);
                }
            }
        }
        GlacierMail free = Check.told("snow 3 fall 3;stripe 1;seed 3;lanes 4;last 20");
        Check.same("lanes", free.count(0), 4);
        Check.same("last", free.count(1), 20);
    }

    private static void nothingStays() {
        GlacierMail mail = Check.told("person 0 0;person 1 1");
        mail.post(0, 1);
        Check.wrongValley(mail, "section 0 1 1 1;snow 3 fall 3;stripe 1;seed 3;flood 1 1 1;person 1 1;rock 1 1;"
                + "table 1 1 1;x", 90);
        int[] due = {3, 40, 0, 2, 1, 0, 0, 1, -1, 0, 10, 2, 3, 1, 0, 0, 1, 1};
        for (int what = 0; what < due.length; what++) {
            Check.same("behind a wrong text: count " + what, mail.count(what), due[what]);
        }
    }

    private static void twelveTexts() {
        GlacierMail mail = new GlacierMail();
        for (int i = 1; i <= 12; i++) {
            Check.same("text " + i, Check.valley(mail, ""), i);
        }
        Check.wrongValley(mail, "seed", 4);
        Check.unsupported("a 13th text", () -> Check.valley(mail, "seed 5"));
        Check.same("a right text is no fault", mail.fault(), -1);
        Check.same("the tape is used up", mail.end(1), false);
        Check.same("seed", mail.count(13), 1);
        Check.same("texts", mail.count(7), 12);
    }

    private static void byYear() {
        GlacierMail mail = new GlacierMail();
        mail.years(50);
        Check.wrongValley(mail, "flood 49 1 1", 6);
        Check.same("a flood now", Check.valley(mail, "flood 50 1 1;rock 2 3"), 1);
        Check.same("a rock is thrown in now", mail.letter(0, 3), 50);
        Check.same("its lane", mail.letter(0, 2), 2);
        Check.same("its row", mail.letter(0, 4), 3);
    }
}
