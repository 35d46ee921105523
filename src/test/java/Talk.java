import java.nio.charset.StandardCharsets;

/** One session as a test talks to it, and the count of what was not as due. */
final class Talk {
    private static int wrong = 0;

    final Counted mail = new Counted();

    /** Sends a text, eight bytes a call; whether every call was taken. */
    boolean say(String told) {
        byte[] all = told.getBytes(StandardCharsets.ISO_8859_1);
        boolean taken = true;
        for (int from = 0; from < all.length; from += 8) {
            int n = Math.min(8, all.length - from);
            long v = 0;
            for (int i = 0; i < n; i++) {
                v = (v << 8) | (all[from + i] & 255);
            }
            taken &= mail.send(v, n);
        }
        return taken;
    }

    /** Sends whole lines. */
    Talk lines(String... told) {
        for (String line : told) {
            say(line + "\r\n");
        }
        return this;
    }

    /** All answers that wait, each line's end written as '|'. */
    String heard() {
        StringBuilder all = new StringBuilder();
        long word;
        do {
            word = mail.reply();
            int n = (int) (word >>> 56);
            if (n > 7) {
                throw new IllegalStateException("reply tells of " + n + " bytes");
            }
            for (int i = 0; i < 7; i++) {
                int b = (int) (word >>> (48 - 8 * i)) & 255;
                if (i < n) {
                    all.append((char) b);
                } else if (b != 0) {
                    throw new IllegalStateException("a byte behind the end of a reply");
                }
            }
        } while (word != 0);
        return all.toString().replace("\r\n", "|");
    }

    /** What whole lines are answered. */
    String ask(String... told) {
        lines(told);
        return heard();
    }

    /** A session that has been greeted, with nothing waiting. */
    static Talk greeted() {
        Talk talk = new Talk();
        talk.ask("LHLO x");
        return talk;
    }

    /** A session with a sender and one recipient, with nothing waiting. */
    static Talk addressed() {
        Talk talk = greeted();
        talk.ask("MAIL FROM:<joe@far.net>", "RCPT TO:<ann@here>");
        return talk;
    }

    /** A session with no answers waiting, behind the lines. */
    static Talk behind(String... told) {
        Talk talk = new Talk();
        talk.ask(told);
        return talk;
    }

    /** All that message(), bytes() and count() show, of which none changes anything. */
    String shown() {
        StringBuilder all = new StringBuilder("counts");
        for (int what = 0; what < 6; what++) {
            all.append(' ').append(mail.count(what));
        }
        int messages = mail.count(0);
        for (int k = 0; k <= messages; k++) {
            all.append(", message ").append(k);
            for (int what = 0; what < 4; what++) {
                all.append(' ').append(mail.message(k, what));
            }
            for (int part = 0; part < 3; part++) {
                all.append(' ').append(mail.bytes(k, part, 0)).append(' ').append(mail.bytes(k, part, 8));
            }
        }
        return all.toString();
    }

    /** The bytes of a part of a message, as bytes() tells them. */
    String part(int k, int part, int length) {
        StringBuilder all = new StringBuilder();
        for (int i = 0; i < length; i += 8) {
            long word = mail.bytes(k, part, i);
            for (int j = 0; j < 8 && i + j < length; j++) {
                all.append((char) ((word >>> (56 - 8 * j)) & 255));
            }
        }
        return all.toString();
    }

    static String times(int n, char c) {
        return String.valueOf(c).repeat(n);
    }

    static void due(String what, Object got, Object want) {
        if (!String.valueOf(got).equals(String.valueOf(want))) {
            wrong++;
            System.out.println(what + ": answered " + got + ", due is " + want);
        }
    }

    static void finish() {
        if (wrong != 0) {
            System.out.println(wrong + " answers are not as due");
            System.exit(1);
        }
    }
}
