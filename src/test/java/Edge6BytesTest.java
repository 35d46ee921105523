/** Promise 6: 0 behind the end; -1 if there is none, or i is below 0; the largest and the smallest int. */
public final class Edge6BytesTest {
    private static final String SENDER = "joe@far.net";
    private static final String RECIPIENT = "12345678@HERE";
    private static final String TEXT = "\u00ff\u0080\0\u007fabcdefgh ijklmnopqrst\u00ff\r\n";

    public static void main(String[] args) {
        everyPlace();
        behindTheEnd();
        belowZero();
        noSuchMessage();
        anotherPart();
        emptyParts();
        longestParts();
        eightBytesOfOnes();
        Talk.finish();
    }

    private static Talk withOne() {
        Talk talk = Talk.greeted();
        talk.ask("MAIL FROM:<" + SENDER + ">", "RCPT TO:<" + RECIPIENT + ">", "RCPT TO:<b@here>", "DATA",
            TEXT.substring(0, TEXT.length() - 2), ".");
        return talk;
    }

    private static long eight(String told, int i) {
        long word = 0;
        for (int j = 0; j < 8; j++) {
            word = word << 8 | (i + j < told.length() ? told.charAt(i + j) : 0);
        }
        return word;
    }

    private static void whole(Talk talk, int k, int part, String told) {
        for (int i = 0; i <= told.length() + 9; i++) {
            Talk.due("bytes(" + k + ", " + part + ", " + i + ")", talk.mail.bytes(k, part, i), eight(told, i));
        }
    }

    private static void everyPlace() {
        Talk talk = withOne();
        whole(talk, 0, 0, TEXT);
        whole(talk, 0, 1, SENDER);
        whole(talk, 0, 2, RECIPIENT);
    }

    private static void behindTheEnd() {
        Counted mail = withOne().mail;
        int end = TEXT.length();
        Talk.due("eight bytes to the end", mail.bytes(0, 0, end - 8) & 255, 10L);
        Talk.due("one behind the end", mail.bytes(0, 0, end - 7) & 255, 0L);
        Talk.due("the last byte", mail.bytes(0, 0, end - 1), 0x0a00000000000000L);
        for (int i : new int[] {end, end + 1, 99, 100, 199, 200, 201, 202, 255, 256, 65536, Integer.MAX_VALUE - 8,
            Integer.MAX_VALUE - 7, Integer.MAX_VALUE - 6, Integer.MAX_VALUE - 1, Integer.MAX_VALUE}) {
            for (int part = 0; part < 3; part++) {
                Talk.due("bytes(0, " + part + ", " + i + ")", mail.bytes(0, part, i), 0L);
            }
        }
    }

    private static void belowZero() {
        Counted mail = withOne().mail;
        for (int i : new int[] {-1, -2, -7, -8, -256, Integer.MIN_VALUE, Integer.MIN_VALUE + 1}) {
            for (int part = -1; part < 4; part++) {
                Talk.due("bytes(0, " + part + ", " + i + ")", mail.bytes(0, part, i), -1L);
                Talk.due("bytes(1, " + part + ", " + i + ")", mail.bytes(1, part, i), -1L);
            }
        }
    }

    private static void noSuchMessage() {
        Counted mail = withOne().mail;
        for (int k : new int[] {-1, 1, 2, 9, 10, 11, 256, Integer.MIN_VALUE, Integer.MAX_VALUE}) {
            for (int part = 0; part < 3; part++) {
                Talk.due("bytes(" + k + ", " + part + ", 0)", mail.bytes(k, part, 0), -1L);
                Talk.due("bytes(" + k + ", " + part + ", largest)", mail.bytes(k, part, Integer.MAX_VALUE), -1L);
            }
        }
        Talk.due("a new object", new MailLines().bytes(0, 0, 0), -1L);
        Talk talk = Talk.addressed();
        talk.ask("DATA", "x");
        Talk.due("not handed over yet", talk.mail.bytes(0, 0, 0), -1L);
        talk = Talk.greeted();
        for (int k = 0; k < 10; k++) {
            Talk.due("ahead of message " + k, talk.mail.bytes(k, 0, 0), -1L);
            talk.ask("MAIL FROM:<>", "RCPT TO:<a@here>", "DATA", "m" + k, ".");
            Talk.due("message " + k, talk.mail.bytes(k, 0, 0), eight("m" + k + "\r\n", 0));
        }
        Talk.due("message 10", talk.mail.bytes(10, 0, 0), -1L);
    }

    private static void anotherPart() {
        Counted mail = withOne().mail;
        for (int part : new int[] {-1, 3, 4, 256, 257, Integer.MIN_VALUE, Integer.MIN_VALUE + 1, Integer.MAX_VALUE}) {
            Talk.due("part " + part, mail.bytes(0, part, 0), -1L);
            Talk.due("part " + part + ", behind the end", mail.bytes(0, part, 1000), -1L);
        }
    }

    private static void emptyParts() {
        Talk talk = Talk.greeted();
        talk.ask("MAIL FROM:<>", "RCPT TO:<a@here>", "DATA", ".");
        whole(talk, 0, 0, "");
        // The address has no bytes, so every place is behind its end.
        whole(talk, 0, 1, "");
        whole(talk, 0, 2, "a@here");
        Talk.due("below 0 of no bytes", talk.mail.bytes(0, 0, -1), -1L);
        Talk.due("below 0 of no bytes", talk.mail.bytes(0, 1, -1), -1L);
    }

    private static void longestParts() {
        String sender = Talk.times(39, 'l') + "m@" + Talk.times(46, 'd') + "e";
        String text = Talk.times(197, 'x') + "y\r\n";
        Talk talk = Talk.greeted();
        talk.ask("MAIL FROM:<" + sender + ">", "RCPT TO:<a@here>", "DATA", text.substring(0, 198), ".");
        whole(talk, 0, 1, sender);
        whole(talk, 0, 0, text);
    }

    private static void eightBytesOfOnes() {
        // Eight bytes 255 are -1, too, as bytes of a message.
        Talk talk = Talk.addressed();
        talk.ask("DATA", Talk.times(9, '\u00ff'), ".");
        Talk.due("bytes 255", talk.mail.bytes(0, 0, 0), -1L);
        Talk.due("bytes 255", talk.mail.bytes(0, 0, 2), 0xffffffffffffff0dL);
        talk = Talk.addressed();
        talk.ask("DATA", Talk.times(9, '\u0080'), ".");
        Talk.due("bytes 128", talk.mail.bytes(0, 0, 0), 0x8080808080808080L);
    }
}
