/** Promises 7 to 9: heat, speed, flow (its law is in LawTest). */
public final class IceTest {
    private static final int[] HEATS = new int[300];

    public static void main(String[] args) {
        GlacierMail first = new GlacierMail();
        for (int year = 0; year < 300; year++) {
            HEATS[year] = first.heat(year);
        }
        heats();
        speeds();
        flows();
        flowsEverywhere();
        Check.finish();
    }

    private static void heats() {
        GlacierMail mail = new GlacierMail();
        int[] due = {8, 8, 3, 5, 1, 7, 0};
        for (int year = 0; year < due.length; year++) {
            Check.same("heat " + year, mail.heat(year), due[year]);
        }
        int number = 1;
        for (int year = 0; year < 300; year++) {
            number = number * 1103515245 + 12345;
            Check.same("heat " + year, mail.heat(year), (number >> 16 & 0x7fff) % 10);
        }
        Check.valley(mail, "seed 0");
        Check.same("heat 0 of seed 0", mail.heat(0), (12345 >> 16) % 10);
        Check.argument("heat -1", () -> mail.heat(-1));
        Check.argument("heat 300", () -> mail.heat(300));
        mail.image();
        int before = mail.heat(7);
        Check.valley(mail, "seed 9999");
        number = 9999;
        for (int i = 0; i <= 7; i++) {
            number = number * 1103515245 + 12345;
        }
        Check.same("heat 7 of seed 9999", mail.heat(7), (number >> 16 & 0x7fff) % 10);
        mail.back();
        Check.same("heat 7 of the image", mail.heat(7), before);
    }

    private static void speeds() {
        GlacierMail mail = Check.told("lanes 2;last 30;section 0 1 2;section 10 3 4;section 29 5 20");
        Check.same("row 0", mail.speed(0, 0), 1);
        Check.same("row 9", mail.speed(1, 9), 2);
        Check.same("row 10", mail.speed(1, 10), 4);
        Check.same("row 28", mail.speed(0, 28), 3);
        Check.same("row 29", mail.speed(1, 29), 20);
        Check.index("row 30", () -> mail.speed(0, 30));
        Check.index("row -1", () -> mail.speed(0, -1));
        Check.index("lane 2", () -> mail.speed(2, 0));
        Check.index("lane -1", () -> mail.speed(-1, 0));
        Check.index("far", () -> mail.speed(Integer.MAX_VALUE, Integer.MIN_VALUE));
        Check.same("no section", new GlacierMail().speed(2, 39), 0);
    }

    private static void flows() {
        GlacierMail mail = Check.told("lanes 2;last 30;section 0 1 2;section 10 3 4;flood 3 0 9");
        Check.same("as the speed, without a law", mail.flow(1, 10, 3), 4);
        Check.same("the last year", mail.flow(0, 0, 299), 1);
        Check.index("lane ahead of the year", () -> mail.flow(2, 0, 300));
        Check.index("row ahead of the year", () -> mail.flow(0, 30, -1));
        Check.argument("year 300", () -> mail.flow(0, 0, 300));
        Check.argument("year -1", () -> mail.flow(0, 0, -1));
    }

    /** No flow is taken for that of another place or year, whichever is asked first; each object has some of all. */
    private static void flowsEverywhere() {
        int cells = 6 * 99 * 300;
        int asked = 450;
        boolean right = true;
        for (int first = 0; first < cells; first += asked) {
            GlacierMail mail = Check.told("lanes 6;last 99;section 0 1 2 3 4 5 6;section 50 7 8 9 10 11 12");
            Check.law(mail, "fast 1 if row + lane + lane > year;slow 2 if heat > 4 and lane + row < 60;fast 9 if year > 150");
            for (int i = first; i < first + asked; i++) {
                // 7919 is prime to the number of all, so each is asked once
                int cell = (int) (i * 7919L % cells);
                right &= mail.flow(cell / 300 / 99, cell / 300 % 99, cell % 300) == dueFlow(cell);
            }
        }
        Check.same("all flows", right, true);
    }

    private static int dueFlow(int cell) {
        int lane = cell / 300 / 99;
        int row = cell / 300 % 99;
        int year = cell % 300;
        int due = lane + (row < 50 ? 1 : 7) + (row + 2 * lane > year ? 1 : 0) + (year > 150 ? 9 : 0)
                - (HEATS[year] > 4 && lane + row < 60 ? 2 : 0);
        return Math.max(0, due);
    }
}
