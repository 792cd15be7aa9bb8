import java.nio.charset.StandardCharsets;

/** What the tests share: telling texts, comparing answers, and ending with exit code 1 if one was not as due. */
final class Check {
    private static int wrong = 0;
    private static int asked = 0;
    private static String about = "";

    private Check() {
    }

    interface Call {
        Object answer();
    }

    static void feedBytes(GlacierMail mail, byte[] bytes) {
        for (int i = 0; i < bytes.length; i += 20) {
            int[] numbers = new int[5];
            for (int j = 0; j < 20; j++) {
                int b = i + j < bytes.length ? bytes[i + j] & 255 : 0;
                numbers[j / 4] = numbers[j / 4] << 8 | b;
            }
            mail.feed(numbers[0], numbers[1], numbers[2], numbers[3], numbers[4]);
        }
        mail.end(bytes.length);
    }

    static void feedText(GlacierMail mail, String text) {
        feedBytes(mail, text.getBytes(StandardCharsets.ISO_8859_1));
    }

    static int valley(GlacierMail mail, String text) {
        mail.end(0);
        feedText(mail, text);
        return mail.valley();
    }

    static int law(GlacierMail mail, String text) {
        mail.end(0);
        feedText(mail, text);
        return mail.law();
    }

    static int fit(GlacierMail mail, int... bytes) {
        byte[] tape = new byte[bytes.length];
        for (int i = 0; i < bytes.length; i++) {
            tape[i] = (byte) bytes[i];
        }
        mail.end(0);
        feedBytes(mail, tape);
        return mail.fit();
    }

    /** A new object with that text of THE VALLEY. */
    static GlacierMail told(String text) {
        GlacierMail mail = new GlacierMail();
        valley(mail, text);
        return mail;
    }

    static void same(String what, Object got, Object due) {
        asked++;
        if (!got.equals(due)) {
            wrong++;
            System.out.println(about + what + " answered " + got + ", due is " + due);
        }
    }

    /** A test of its own for words of the document: it must ask something. */
    static void about(String words, Runnable test) {
        int before = asked;
        about = "\"" + words + "\": ";
        test.run();
        about = "";
        same("a test of \"" + words + "\" asks something", asked > before, true);
    }

    /** What a call answers, or the name of the exception that it throws. */
    static Object answer(Call call) {
        try {
            return call.answer();
        } catch (RuntimeException e) {
            return e.getClass().getSimpleName();
        }
    }

    static void refuses(String what, String exception, Call call) {
        same(what, answer(call), exception);
    }

    static void index(String what, Call call) {
        refuses(what, "IndexOutOfBoundsException", call);
    }

    static void argument(String what, Call call) {
        refuses(what, "IllegalArgumentException", call);
    }

    static void element(String what, Call call) {
        refuses(what, "NoSuchElementException", call);
    }

    static void state(String what, Call call) {
        refuses(what, "IllegalStateException", call);
    }

    static void unsupported(String what, Call call) {
        refuses(what, "UnsupportedOperationException", call);
    }

    /** A text that is wrong at that byte, and uses the TAPE up. */
    static void wrongValley(GlacierMail mail, String text, int fault) {
        argument("valley of '" + text + "'", () -> valley(mail, text));
        same("fault of '" + text + "'", mail.fault(), fault);
        same("the tape behind '" + text + "'", mail.end(1), false);
    }

    static void wrongLaw(GlacierMail mail, String text, int fault) {
        argument("law of '" + text + "'", () -> law(mail, text));
        same("fault of '" + text + "'", mail.fault(), fault);
        same("the tape behind '" + text + "'", mail.end(1), false);
    }

    static void finish() {
        System.out.println(asked + " answers, " + wrong + " not as due");
        if (wrong != 0 || asked == 0) {
            System.exit(1);
        }
    }
}
