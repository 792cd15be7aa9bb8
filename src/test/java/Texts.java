import java.util.Collections;

/** What the tests of texts share: texts that are right, or wrong at a byte, on an object that was told others first. */
final class Texts {
    private Texts() {
    }

    static String times(int n, String line) {
        return String.join(";", Collections.nCopies(n, line));
    }

    /** A new object with those texts of THE VALLEY, one behind another. */
    static GlacierMail told(String... texts) {
        GlacierMail mail = new GlacierMail();
        for (String text : texts) {
            Check.valley(mail, text);
        }
        return mail;
    }

    static void right(GlacierMail mail, String text) {
        int before = mail.count(7);
        Check.same("valley of '" + text + "'", Check.answer(() -> Check.valley(mail, text)), before + 1);
        Check.same("fault of '" + text + "'", mail.fault(), -1);
    }

    static void right(String text) {
        right(new GlacierMail(), text);
    }

    static void wrong(String text, int fault) {
        Check.wrongValley(new GlacierMail(), text, fault);
    }

    static void rightLaw(String text, int lines) {
        GlacierMail mail = new GlacierMail();
        Check.same("law of '" + text + "'", Check.answer(() -> Check.law(mail, text)), lines);
        Check.same("fault of '" + text + "'", mail.fault(), -1);
        Check.same("its lines", mail.count(8), lines);
    }

    static void wrongLaw(String text, int fault) {
        GlacierMail mail = new GlacierMail();
        Check.wrongLaw(mail, text, fault);
        Check.same("no law came by '" + text + "'", mail.count(8), -1);
    }

    /** A number between head and tail is right at its bounds, and wrong (at its begin) just beyond them. */
    static void bounds(String head, String tail, int least, int most) {
        right(head + least + tail);
        right(head + most + tail);
        wrong(head + (most + 1) + tail, head.length());
        if (least > 0) {
            wrong(head + (least - 1) + tail, head.length());
        }
    }

    /** FLOW at row 0 of a lane in year 0 of a new object that has that law. */
    static int flowBy(String law, int lane) {
        GlacierMail mail = new GlacierMail();
        Check.law(mail, law);
        return mail.flow(lane, 0, 0);
    }

    /** Whether a condition holds at lane 1 of 3, row 0, year 0, without sections (heat 8). */
    static boolean holds(String condition) {
        return flowBy("fast 1 if " + condition, 1) == 1;
    }
}
