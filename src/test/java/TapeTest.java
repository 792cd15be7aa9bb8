/** Promises 1 to 3: a new object, feed, end. */
public final class TapeTest {
    public static void main(String[] args) {
        newObject();
        feeding();
        ending();
        Check.finish();
    }

    private static void newObject() {
        GlacierMail mail = new GlacierMail();
        int[] due = {3, 40, 0, 0, 0, 0, 0, 0, -1, 0, 10, 2, 3, 1, 0, 0, 0, 0};
        for (int what = 0; what < due.length; what++) {
            Check.same("new: count " + what, mail.count(what), due[what]);
        }
        Check.same("NONE", GlacierMail.NONE, -1);
        Check.same("new: fault", mail.fault(), -1);
        Check.same("new: speed", mail.speed(2, 39), 0);
        Check.same("new: flow", mail.flow(0, 0, 0), 0);
        Check.same("new: heat", mail.heat(0), 8);
        Check.same("new: back", mail.back(), false);
        Check.same("new: undo", mail.undo(), false);
        Check.same("new: poles", mail.poles(), 0);
        Check.same("new: range", mail.range(0, 0), -1);
        Check.same("new: fit of nothing", mail.fit(), 0);
        Check.same("new: log", mail.log(0, 0), -1);
    }

    private static void feeding() {
        GlacierMail mail = new GlacierMail();
        for (int i = 1; i <= 20; i++) {
            Check.same("feed " + i, mail.feed(i, i, i, i, i), i * 20);
        }
        Check.same("feed beyond 400", mail.feed(1, 1, 1, 1, 1), -1);
        Check.same("nothing came", mail.end(401), false);
        Check.same("all stayed", mail.end(400), true);
        mail.end(381);
        Check.same("feed to 401", mail.feed(1, 1, 1, 1, 1), -1);
        mail.end(380);
        Check.same("feed to 400", mail.feed(1, 1, 1, 1, 1), 400);
        // the highest byte first: "seed 77;seed 1234;se" cut to 17 bytes
        mail.end(0);
        mail.feed(0x73656564, 0x2037373b, 0x73656564, 0x20313233, 0x343b7365);
        mail.end(17);
        Check.same("bytes by their order", mail.valley(), 1);
        Check.same("seed by these bytes", mail.count(13), 1234);
    }

    private static void ending() {
        GlacierMail mail = new GlacierMail();
        Check.same("end of nothing", mail.end(0), true);
        Check.same("end beyond", mail.end(1), false);
        Check.same("end below", mail.end(-1), false);
        mail.feed(0x73656564, 0x20372020, 0x20202020, 0x20202020, 0x20202039);
        Check.same("end 21 of 20", mail.end(21), false);
        Check.same("end -5 of 20", mail.end(-5), false);
        Check.same("end 20 of 20", mail.end(20), true);
        Check.same("end 19 of 20", mail.end(19), true);
        Check.same("only 19 are left", mail.end(20), false);
        Check.same("the last byte is gone", mail.valley(), 1);
        Check.same("seed", mail.count(13), 7);
        Check.same("the tape is used up", mail.end(1), false);
        // what comes behind an end comes behind the bytes that stayed
        mail.feed(0x73656564, 0x20372020, 0, 0, 0);
        mail.end(6);
        mail.feed(0x33343536, 0, 0, 0, 0);
        mail.end(8);
        Check.same("joined", mail.valley(), 2);
        Check.same("seed joined", mail.count(13), 734);
    }
}
