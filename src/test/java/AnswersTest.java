/** Promises 32 to 34: answers that are thrown in again. */
public final class AnswersTest {
    public static void main(String[] args) {
        oneByOne();
        fewestThrows();
        fewestOfUnlike();
        firstOfSeveral();
        backTo0();
        laterIsSooner();
        refused();
        Check.finish();
    }

    private static void oneByOne() {
        // 0 throws into lane 0 (2 years), 1 watches it; 1 throws into lane 1 (3 years), 2 watches it; 2 into lane 2
        GlacierMail mail = Check.told("lanes 3;last 12;section 0 6 4 0;person 0 0;person 1 0 watch 0;person 2 0 watch 1;"
                + "person 0 0 watch 2");
        Check.same("to 1", mail.soonest(0, 1, false), 2);
        Check.same("by one", mail.soonest(0, 1, true), 1);
        Check.same("to 2: thrown in in 3", mail.soonest(0, 2, false), 6);
        Check.same("by two", mail.soonest(0, 2, true), 2);
        Check.same("never to 3", mail.soonest(0, 3, false), -1);
        Check.same("never to 3, how many", mail.soonest(0, 3, true), -1);
        int[] chain = {0, 1, 2, -1};
        for (int k = 0; k < chain.length; k++) {
            Check.same("chain " + k, mail.chain(0, 2, k), chain[k]);
        }
        Check.same("chain without a way", mail.chain(0, 3, 0), -1);
        Check.same("chain far beyond", mail.chain(0, 2, Integer.MAX_VALUE), -1);
        Check.same("reached by 0", mail.reached(0, 0), 1);
        Check.same("reached by 1", mail.reached(0, 1), 1);
        Check.same("reached by 2", mail.reached(0, 2), 3);
        Check.same("reached by 5", mail.reached(0, 5), 3);
        Check.same("reached by 6", mail.reached(0, 6), 7);
        Check.same("reached by 299", mail.reached(0, 299), 7);
        Check.same("that one, too", mail.reached(3, 0), 8);
        mail.years(50);
        Check.same("from now on", mail.soonest(0, 2, false), 56);
        Check.same("reached in a year gone by", mail.reached(0, 6), 1);
        Check.same("reached from now on", mail.reached(0, 52), 3);
        for (int i = 0; i < 4; i++) {
            mail.years(50);
        }
        mail.years(44);
        Check.same("had in 296, thrown in in 297", mail.soonest(0, 1, false), 296);
        Check.same("not by 299", mail.soonest(0, 2, false), -1);
        mail.undo();
        mail.years(43);
        Check.same("just by 299", mail.soonest(0, 2, false), 299);
        Check.same("reached by 299", mail.reached(0, 299), 7);
        Check.same("reached by 298", mail.reached(0, 298), 3);
        mail.watch(1, 1);
        Check.same("who watches now", mail.soonest(0, 1, false), -1);
    }

    private static void fewestThrows() {
        // by lane 0 in 7 years at once, or by 1 and 2 (each 3 years and one between: 0, 3, 4, 7)
        GlacierMail mail = Check.told("lanes 2;last 14;section 0 2 5;person 0 0;person 1 0 watch 0;person 1 0 watch 1;"
                + "person 0 8 watch 0");
        Check.same("7 years", mail.soonest(0, 1, false), 7);
        Check.same("by one", mail.soonest(0, 1, true), 1);
        // 3 has what 0 threw in in 7, throws it in in 8, and it is out in 11
        Check.same("on to 2: 8, 11", mail.soonest(0, 2, false), 11);
        Check.same("by two", mail.soonest(0, 2, true), 2);
        Check.same("2 had it by 1", mail.chain(0, 2, 1), 1);
    }

    private static void fewestOfUnlike() {
        // 3 has it in 5 both by one throw less (0 by 1) and by one more (0 by 2 and 4): lane 0 is watched by 1 and 2
        GlacierMail mail = Check.told("lanes 4;last 12;section 0 6 6 12 1;person 0 0;person 0 4 watch 0;person 2 0 watch 0;"
                + "person 3 0 watch 1;person 1 0 watch 2;person 1 1 watch 0");
        // 0 throws: out in 2, had by 1, 2, 5; in 3: 2 into lane 2, out in 4, 4 has it, in 5 into lane 1, out in 7;
        // 5 in 3 into lane 1, out in 5
        Check.same("3 has it by 5", mail.soonest(0, 3, false), 5);
        Check.same("by two throws", mail.soonest(0, 3, true), 2);
        Check.law(mail, "slow 6 if lane < 2 and lane > 0 and year < 5 and row > 0");
        // what 5 threw in stands till year 5, then it is out in 7, just as what 4 threw in
        Check.same("3 has it by 7", mail.soonest(0, 3, false), 7);
        Check.same("still by two throws, not by three", mail.soonest(0, 3, true), 2);
        Check.same("by 5", mail.chain(0, 3, 1), 5);
    }

    private static void backTo0() {
        // 1 throws into lane 1, which 2 watches; 2 into lane 2, which 0 watches; 0 into lane 0, which 3 watches
        GlacierMail mail = Check.told("lanes 3;last 12;section 0 4 6 3;person 0 0 watch 2;person 1 0;person 2 0 watch 1;"
                + "person 0 5 watch 0");
        int[] chain = {1, 2, 0, 3, -1};
        for (int k = 0; k < chain.length; k++) {
            Check.same("chain " + k, mail.chain(1, 3, k), chain[k]);
        }
        Check.same("years: 2, 3 and 4 more, 8 and 3 more", mail.soonest(1, 3, false), 11);
        Check.same("0 is reached, too", mail.reached(1, 7), 7);
        Check.same("all are", mail.reached(1, 11), 15);
    }

    private static void firstOfSeveral() {
        // 1 and 2 have the same huts and watch the same lane: the one of the least number is told
        GlacierMail mail = Check.told("lanes 3;last 12;section 0 6 6 6;person 0 0;person 0 0 watch 2;person 1 0 watch 0;"
                + "person 1 0 watch 0;person 2 0 watch 1");
        Check.same("by 4", mail.soonest(0, 4, false), 5);
        Check.same("the least of two", mail.chain(0, 4, 1), 2);
        Check.same("on to 1", mail.soonest(0, 1, false), 8);
        int[] chain = {0, 2, 4, 1, -1};
        for (int k = 0; k < chain.length; k++) {
            Check.same("chain " + k, mail.chain(0, 1, k), chain[k]);
        }
        Check.same("one who watches the own lane has it again", mail.reached(2, 2), 4 + 16);
    }

    private static void laterIsSooner() {
        // 0 and 1 watch lane 0, in which both throw: what is had later may go on sooner
        GlacierMail mail = Check.told("lanes 2;last 10;section 0 5 1;section 1 5 0;section 9 5 20;"
                + "person 0 5 watch 0;person 1 0 watch 0;person 0 5 watch 1");
        // lane 1: from row 0 one a year, then it stands, but in year 7 all flows 9 more
        Check.law(mail, "fast 9 if lane > 0 and row < 1 and year > 6");
        // 0 has it in 1, 3, 5, 7 ..; 1 as well, who throws it in in 2 (it stands at 1), 4, 6, 8: 10 rows, out in 9
        Check.same("by a later throw", mail.soonest(0, 2, false), 9);
        Check.same("by five", mail.soonest(0, 2, true), 5);
        int[] chain = {0, 0, 0, 0, 1, 2, -1};
        for (int k = 0; k < chain.length; k++) {
            Check.same("chain " + k, mail.chain(0, 2, k), chain[k]);
        }
    }

    private static void refused() {
        GlacierMail mail = Check.told("person 0 0;person 1 1");
        Check.index("from", () -> mail.soonest(2, 0, false));
        Check.index("to", () -> mail.soonest(0, -1, false));
        Check.index("both none", () -> mail.soonest(2, 2, false));
        Check.argument("both one", () -> mail.soonest(1, 1, true));
        Check.index("chain from", () -> mail.chain(2, 0, -1));
        Check.index("chain to", () -> mail.chain(0, 2, 0));
        Check.argument("chain both one", () -> mail.chain(0, 0, 0));
        Check.argument("chain k", () -> mail.chain(0, 1, -1));
        Check.index("reached", () -> mail.reached(2, 300));
        Check.argument("reached year 300", () -> mail.reached(0, 300));
        Check.argument("reached year -1", () -> mail.reached(0, -1));
    }
}
