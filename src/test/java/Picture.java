import java.util.function.Supplier;

/** All that an object answers about what it holds, as a text, in some hundred calls. */
final class Picture {
    private Picture() {
    }

    static String of(GlacierMail mail) {
        StringBuilder all = new StringBuilder("fault ").append(mail.fault());
        for (int what = 0; what < 18; what++) {
            all.append(' ').append(mail.count(what));
        }
        row(all, "speed", mail.count(0), i -> mail.speed(i, i));
        int end = mail.count(1) - 1;
        row(all, "flow", mail.count(0), i -> mail.flow(i, end, i));
        row(all, "heat", 4, i -> mail.heat(i));
        for (int person = 0; person < mail.count(3); person++) {
            int one = person;
            row(all, "person", 6, what -> mail.person(one, what));
        }
        for (int letter = 0; letter < mail.count(4); letter++) {
            int one = letter;
            row(all, "letter", 10, what -> mail.letter(one, what));
            row(all, "moved", 1, i -> mail.moved(one));
            row(all, "without", mail.count(5), flood -> mail.without(one, flood));
        }
        for (int table = 0; table < mail.count(6); table++) {
            int one = table;
            row(all, "table", mail.count(0), lane -> mail.table(one, lane));
        }
        for (int k = 0; k < mail.count(14); k++) {
            int one = k;
            row(all, "log", 3, what -> mail.log(one, what));
        }
        return all.toString();
    }

    private interface Asked {
        int of(int i);
    }

    private static void row(StringBuilder all, String name, int many, Asked asked) {
        all.append("; ").append(name);
        for (int i = 0; i < many; i++) {
            all.append(' ').append(asked.of(i));
        }
    }

    /** All that is seen now, the bytes of the TAPE (as a law), what undoing and then THE IMAGE bring back. */
    static String whole(Supplier<GlacierMail> made) {
        GlacierMail mail = made.get();
        StringBuilder all = new StringBuilder(of(mail));
        int length = 400;
        while (length > 0 && !mail.end(length)) {
            length -= 20;
        }
        all.append("; tape ").append(length);
        all.append("; undone ").append(mail.undo()).append(' ').append(of(mail));
        all.append("; back ").append(mail.back()).append(' ').append(of(mail));
        all.append("; law ").append(Check.answer(mail::law)).append(' ').append(mail.fault()).append(' ')
                .append(mail.flow(0, 0, 0)).append(mail.flow(0, 1, 1));
        return all.toString();
    }
}
