/** Promises 10 to 17: people, letters, where and how deep they are, and the acts. */
public final class LettersTest {
    public static void main(String[] args) {
        people();
        wayOfALetter();
        floods();
        wayOfARock();
        bounds();
        posting();
        watching();
        opening();
        years();
        firstWhoMay();
        rocksAtTheLip();
        rocksComeOutLater();
        Check.finish();
    }

    private static void people() {
        GlacierMail mail = Check.told("last 10;section 0 5 5 5;person 0 1 watch 2;person 1 9;person 2 0 watch 0");
        Check.same("lane", mail.person(1, 0), 1);
        Check.same("row", mail.person(1, 1), 9);
        Check.same("watches none", mail.person(1, 2), -1);
        Check.same("watches", mail.person(0, 2), 2);
        mail.post(0, 1);
        mail.post(0, 2);
        mail.post(2, 0);
        Check.same("threw in", mail.person(0, 3), 2);
        Check.same("threw in none", mail.person(1, 3), 0);
        mail.years(2);
        // all are out in year 2: letter 0 waits for person 1, the others are opened by whom they are to
        Check.same("opened", mail.person(0, 4), 1);
        Check.same("opened", mail.person(2, 4), 1);
        Check.same("opened none", mail.person(1, 4), 0);
        Check.same("waits", mail.person(1, 5), 1);
        Check.same("none waits", mail.person(2, 5), 0);
        Check.element("what 6", () -> mail.person(0, 6));
        Check.element("what -1", () -> mail.person(0, -1));
        Check.index("person 3", () -> mail.person(3, 0));
        Check.index("person ahead of what", () -> mail.person(-1, 9));
    }

    private static void wayOfALetter() {
        // heats of seed 1: 8 8 3 5 1 7 0
        GlacierMail mail = Check.told("lanes 1;last 20;section 0 3;section 6 4;snow 6 fall 9;person 0 0;person 0 5");
        mail.years(2);
        mail.post(0, 1);
        int[] rows = {-1, -1, 0, 3, 6, 10, 14, 18, 20, 20};
        int[] deep = {-1, -1, 0, 9, 18, 17, 10, 10, 0, 0};
        // in year 4 (heat 1), 5 (7), 6 (0), 7 it lies behind the snow
        int heat7 = mail.heat(7);
        deep[8] = Math.max(0, deep[7] - heat7);
        deep[9] = deep[8];
        for (int year = 0; year < rows.length; year++) {
            Check.same("where in " + year, mail.where(0, year), rows[year]);
            Check.same("deep in " + year, mail.deep(0, year), deep[year]);
        }
        Check.same("from", mail.letter(0, 0), 0);
        Check.same("to", mail.letter(0, 1), 1);
        Check.same("lane", mail.letter(0, 2), 0);
        Check.same("year", mail.letter(0, 3), 2);
        Check.same("row", mail.letter(0, 4), 0);
        Check.same("opened by", mail.letter(0, 5), -1);
        Check.same("opened in", mail.letter(0, 6), -1);
        Check.same("out", mail.letter(0, 7), 8);
        Check.same("deep when out", mail.letter(0, 8), deep[8]);
        Check.same("never bare", mail.letter(0, 9), -1);
        Check.same("where at the end", mail.where(0, 299), 20);
        Check.same("deep at the end", mail.deep(0, 299), deep[8]);
        Check.element("what 10", () -> mail.letter(0, 10));
        Check.element("what -1", () -> mail.letter(0, -1));
        Check.index("letter 1", () -> mail.letter(1, 0));
        Check.index("letter ahead of what", () -> mail.letter(-1, 99));
        Check.index("where letter", () -> mail.where(1, 300));
        Check.argument("where year", () -> mail.where(0, 300));
        Check.argument("where year", () -> mail.where(0, -1));
        Check.index("deep letter", () -> mail.deep(-1, 300));
        Check.argument("deep year", () -> mail.deep(0, 300));
        Check.argument("deep year", () -> mail.deep(0, -1));
        GlacierMail bare = Check.told("lanes 1;last 40;section 0 3;snow 3 fall 9;person 0 0;person 0 5");
        bare.post(0, 1);
        // 9 deep in year 1, by the heat 8 of year 1 it is 1 in year 2, by 3 of year 2 it is 0 in year 3
        Check.same("first bare", bare.letter(0, 9), 3);
        GlacierMail still = Check.told("lanes 1;last 40;section 0 0;snow 0 fall 9;person 0 0;person 0 5");
        still.post(0, 1);
        Check.same("bare a year later", still.letter(0, 9), 1);
        Check.same("never out", still.letter(0, 7), -1);
        Check.same("never out, how deep", still.letter(0, 8), -1);
        GlacierMail deepest = Check.told("lanes 1;last 40;section 0 0;snow 1 fall 9;person 0 0;person 0 5");
        deepest.post(0, 1);
        Check.same("99 deep at most", deepest.deep(0, 12), 99);
        Check.same("99 deep", deepest.deep(0, 11), 99);
        Check.same("90 deep", deepest.deep(0, 10), 90);
        Check.law(deepest, "fast 1 if year > 297");
        Check.same("by what is told now", deepest.where(0, 299), 1);
    }

    private static void floods() {
        // thrown in at 0, 5 a year; year 1: 5 -> 10, then by both floods of that year, by numbers
        GlacierMail mail = Check.told("lanes 1;last 40;section 0 5;person 0 0;person 0 1;"
                + "flood 1 13 4;flood 1 10 3;flood 1 13 2;flood 2 16 1;flood 0 6 9;snow 6 fall 1");
        mail.post(0, 1);
        Check.same("year 1", mail.where(0, 1), 5);
        Check.same("year 2: the first flood comes too early", mail.where(0, 2), 15);
        Check.same("year 3", mail.where(0, 3), 21);
        Check.same("deep by the row at the begin", mail.deep(0, 2), 2);
    }

    private static void wayOfARock() {
        GlacierMail mail = Check.told("lanes 2;last 20;section 0 3 7;snow 15 fall 9;rock 1 4");
        Check.same("from nobody", mail.letter(0, 0), -1);
        Check.same("to nobody", mail.letter(0, 1), -1);
        Check.same("on top", mail.deep(0, 2), 0);
        Check.same("where", mail.where(0, 2), 18);
        Check.same("out", mail.letter(0, 7), 3);
        Check.same("on top when out", mail.letter(0, 8), 0);
        Check.same("bare", mail.letter(0, 9), 1);
        Check.same("bare, as bits", mail.bare(2), 1);
        Check.same("not bare when thrown in", mail.bare(0), 0);
        Check.same("not bare when out", mail.bare(3), 0);
    }

    private static void bounds() {
        GlacierMail mail = Check.told("lanes 1;last 10;section 0 9;person 0 0;person 0 1");
        mail.post(1, 0);
        Check.same("just at the lip", mail.letter(0, 7), 1);
        mail.post(0, 1);
        Check.same("just ahead of it", mail.where(1, 1), 9);
        Check.same("beyond", mail.where(1, 2), 10);
        for (int i = 0; i < 5; i++) {
            mail.years(50);
        }
        mail.years(48);
        mail.post(1, 0);
        Check.same("out in the last year", mail.letter(2, 7), 299);
        mail.post(0, 1);
        Check.same("not by the last year", mail.letter(3, 7), -1);
        Check.same("the last year's row", mail.where(3, 299), 9);
        mail.years(1);
        mail.post(1, 0);
        Check.same("thrown in in the last year", mail.letter(4, 7), -1);
        Check.same("where then", mail.where(4, 299), 1);
        Check.same("where ahead of it", mail.where(4, 298), -1);
    }

    private static void posting() {
        GlacierMail mail = Check.told("section 0 1 1 1;person 0 7;person 1 9;person 2 11");
        Check.index("from", () -> mail.post(3, 0));
        Check.index("to", () -> mail.post(0, 3));
        Check.index("both none", () -> mail.post(-1, -1));
        Check.argument("both one", () -> mail.post(1, 1));
        Check.same("nothing to undo", mail.count(17), 0);
        for (int i = 0; i < 24; i++) {
            Check.same("letter " + i, mail.post(2, 1), i);
        }
        Check.unsupported("letter 24", () -> mail.post(0, 1));
        Check.argument("both one, ahead of it", () -> mail.post(1, 1));
        Check.same("letters", mail.count(4), 24);
        Check.same("at the hut", mail.letter(23, 4), 11);
        Check.same("in its lane", mail.letter(23, 2), 2);
    }

    private static void watching() {
        GlacierMail mail = Check.told("person 0 7 watch 2");
        Check.same("it was", mail.watch(0, 1), 2);
        Check.same("it was", mail.watch(0, -1), 1);
        Check.same("it was none", mail.watch(0, -1), -1);
        Check.same("now", mail.person(0, 2), -1);
        Check.index("lane 3", () -> mail.watch(0, 3));
        Check.index("lane -2", () -> mail.watch(0, -2));
        Check.index("person", () -> mail.watch(1, 0));
        Check.same("each is an act", mail.count(17), 3);
    }

    private static void opening() {
        GlacierMail mail = Check.told("lanes 1;last 10;section 0 3;person 0 0;person 0 1;rock 0 9");
        int letter = mail.post(0, 1);
        Check.state("in the ice", () -> mail.open(letter));
        mail.years(3);
        Check.state("still in the ice", () -> mail.open(letter));
        mail.years(2);
        Check.same("waits", mail.person(1, 5), 1);
        Check.state("a rock is to nobody", () -> mail.open(0));
        Check.index("letter 2", () -> mail.open(2));
        Check.index("letter -1", () -> mail.open(-1));
        Check.same("opened", mail.open(letter), 5);
        Check.same("by", mail.letter(letter, 5), 1);
        Check.same("in", mail.letter(letter, 6), 5);
        Check.same("log", mail.log(0, 0), 5);
        Check.same("opened, all", mail.count(14), 1);
        Check.state("opened already", () -> mail.open(letter));
        Check.same("acts", mail.count(17), 4);
    }

    private static void years() {
        GlacierMail mail = Check.told("lanes 2;last 10;section 0 5 4;person 0 0 watch 0;person 1 0 watch 0;"
                + "person 0 5 watch 1;person 1 9");
        Check.law(mail, "open if person > 0 and age > 2");
        mail.post(0, 1);
        mail.post(1, 2);
        mail.post(1, 3);
        mail.post(2, 3);
        Check.argument("0 years", () -> mail.years(0));
        Check.argument("51 years", () -> mail.years(51));
        Check.argument("years below", () -> mail.years(Integer.MIN_VALUE));
        Check.argument("years beyond", () -> mail.years(Integer.MAX_VALUE));
        // letter 3 is out in 1 in lane 0, to 3 who watches nothing: nobody may open it ahead of age 3
        Check.same("year 1", mail.years(1), 0);
        Check.same("letter 0, out in 2, is opened by 1", mail.years(1), 1);
        Check.same("year 2 of the log", mail.log(0, 0), 2);
        Check.same("letter 0 of the log", mail.log(0, 1), 0);
        Check.same("person 1 of the log", mail.log(0, 2), 1);
        Check.same("all others in year 3", mail.years(50), 3);
        Check.same("letter 1 by 2", mail.log(1, 1) * 10 + mail.log(1, 2), 12);
        Check.same("letter 2 by 2, who may", mail.log(2, 1) * 10 + mail.log(2, 2), 22);
        Check.same("letter 3 by 1, who may", mail.log(3, 1) * 10 + mail.log(3, 2), 31);
        Check.same("in year 3", mail.log(3, 0), 3);
        Check.same("now", mail.count(9), 52);
        for (int i = 0; i < 4; i++) {
            mail.years(50);
        }
        Check.argument("beyond 299", () -> mail.years(48));
        Check.same("to 299", mail.years(47), 0);
        Check.argument("no year is left", () -> mail.years(1));
        Check.same("the last year", mail.count(9), 299);
    }

    private static void firstWhoMay() {
        GlacierMail mail = Check.told("lanes 1;last 10;section 0 5;person 0 5 watch 0;person 0 5 watch 0;person 0 5");
        Check.law(mail, "open");
        mail.post(1, 2);
        mail.post(0, 1);
        Check.same("both", mail.years(1), 2);
        Check.same("the first of all who may, if whom it is to does not watch", mail.letter(0, 5), 0);
        Check.same("whom it is to ahead of the first", mail.letter(1, 5), 1);
    }

    private static void rocksAtTheLip() {
        GlacierMail mail = Check.told("lanes 1;last 10;section 0 5;rock 0 0;person 0 0 watch 0;person 0 5");
        mail.years(2);
        Check.same("the rock is out", mail.letter(0, 7), 2);
        Check.same("a rock does not wait", mail.count(15), 0);
        Check.same("nor is it in the ice", mail.count(16), 0);
        Check.same("nor does it wait for one", mail.person(0, 5), 0);
        Check.law(mail, "open");
        int letter = mail.post(1, 0);
        Check.same("the letter alone is opened where all may open", mail.years(3), 1);
        Check.same("it is in the log", mail.log(0, 1), letter);
        Check.same("the rock is not", mail.log(1, 1), -1);
        Check.same("nobody opened the rock", mail.letter(0, 5), -1);
        Check.same("in no year", mail.letter(0, 6), -1);
        Check.same("one opened one", mail.person(0, 4), 1);
        Check.same("of all one is opened", mail.count(14), 1);
        Check.state("a rock cannot be opened", () -> mail.open(0));
    }

    private static void rocksComeOutLater() {
        GlacierMail mail = Check.told("person 0 0 watch 0;person 1 1 watch 0;flood 5 0 1;rock 0 39");
        Check.law(mail, "open");
        Check.same("ahead of the flood", mail.years(5), 0);
        Check.same("in the ice", mail.count(16), 1);
        Check.same("by the flood it is out, and none opens it", mail.years(1), 0);
        Check.same("out", mail.letter(0, 7), 6);
        Check.same("not in the ice", mail.count(16), 0);
        Check.same("it does not wait", mail.count(15), 0);
        Check.same("nor later", mail.years(50), 0);
        Check.same("the log", mail.log(0, 0), -1);
        Check.same("the acts are remembered", mail.count(17), 3);
    }
}
