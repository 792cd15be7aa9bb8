/** Promises 28 to 31: tables, and what poles tell. */
public final class PolesTest {
    public static void main(String[] args) {
        tables();
        fewest();
        fits();
        fullTape();
        Check.finish();
    }

    private static void tables() {
        GlacierMail mail = Check.told("lanes 4;table 1 2 3 4;table 1 2 3 5;table 0 2 3 4");
        Check.same("table 0", mail.table(0, 3), 4);
        Check.same("table 1", mail.table(1, 3), 5);
        Check.same("table 2", mail.table(2, 0), 0);
        Check.index("table 3", () -> mail.table(3, 0));
        Check.index("table -1", () -> mail.table(-1, 0));
        Check.index("lane 4", () -> mail.table(0, 4));
        Check.index("lane -1", () -> mail.table(0, -1));
        Check.same("by lane 3", mail.apart(0, 1, 8), true);
        Check.same("by all others", mail.apart(0, 1, 7), false);
        Check.same("by none", mail.apart(0, 1, 0), false);
        Check.same("by lanes that are none", mail.apart(0, 1, ~15), false);
        Check.same("by all bits", mail.apart(1, 2, -1), true);
        Check.same("one and itself", mail.apart(1, 1, -1), false);
        Check.index("apart: table", () -> mail.apart(3, 0, 1));
        Check.index("apart: other", () -> mail.apart(0, -1, 1));
    }

    private static void fewest() {
        Check.same("without tables", new GlacierMail().poles(), 0);
        Check.same("one table", Check.told("table 1 1 1").poles(), 0);
        Check.same("two that are one", Check.told("table 1 1 1;table 1 1 1").poles(), -1);
        Check.same("one pole is enough, of several the least", Check.told("table 1 1 1;table 1 2 2").poles(), 2);
        Check.same("two are needed", Check.told("table 1 1 1;table 1 2 1;table 1 1 2").poles(), 6);
        Check.same("one in the last lane is fewer than two", Check.told("table 1 1 1;table 1 2 2;table 2 1 3").poles(), 4);
        Check.same("three are needed", Check.told("table 1 1 1;table 2 1 1;table 1 2 1;table 1 1 2").poles(), 7);
        Check.same("six lanes", Check.told("lanes 6;table 1 1 1 1 1 1;table 1 1 1 1 1 2").poles(), 32);
    }

    private static void fits() {
        GlacierMail mail = Check.told("lanes 3;table 1 2 3;table 1 2 4;table 2 2 20");
        Check.same("none told", Check.fit(mail), 7);
        Check.same("lane 0", Check.fit(mail, 0, 1), 3);
        Check.same("two", Check.fit(mail, 0, 1, 2, 4), 2);
        Check.same("one lane twice", Check.fit(mail, 1, 2, 1, 2), 7);
        Check.same("one lane twice, unlike", Check.fit(mail, 0, 1, 0, 2), 0);
        Check.same("20", Check.fit(mail, 2, 20), 4);
        Check.same("0", Check.fit(mail, 2, 0), 0);
        Check.same("0 in a table", Check.fit(Check.told("table 1 0 1"), 1, 0), 1);
        Check.argument("21", () -> Check.fit(mail, 2, 21));
        Check.same("used up", mail.end(1), false);
        Check.argument("lane 3", () -> Check.fit(mail, 3, 1));
        Check.argument("odd", () -> Check.fit(mail, 0, 1, 0));
        Check.same("used up", mail.end(1), false);
        Check.argument("a high byte as the lane", () -> Check.fit(mail, 255, 1));
        Check.argument("a high byte as the speed", () -> Check.fit(mail, 0, 129));
        Check.argument("wrong behind right ones", () -> Check.fit(mail, 0, 1, 1, 1, 2, 200));
        Check.wrongValley(mail, "x", 0);
        Check.fit(mail, 0, 1);
        Check.same("readings are no text: the fault stays", mail.fault(), 0);
        Check.same("without tables", Check.fit(new GlacierMail(), 0, 1), 0);
    }

    private static void fullTape() {
        GlacierMail mail = Check.told("lanes 3;table 1 2 3;table 1 2 4");
        int[] readings = new int[400];
        for (int i = 0; i < 400; i += 2) {
            readings[i] = 1;
            readings[i + 1] = 2;
        }
        Check.same("200 readings", Check.fit(mail, readings), 3);
        readings[398] = 2;
        readings[399] = 4;
        Check.same("the last tells", Check.fit(mail, readings), 2);
        readings[399] = 21;
        Check.argument("the last is wrong", () -> Check.fit(mail, readings));
    }
}
