/** Promise 5: no such message; another what; a message without a sender's address. */
public final class Edge5MessageTest {
    private static final int[] FAR = {Integer.MIN_VALUE, Integer.MIN_VALUE + 1, -256, -1, 10, 11, 256, 65536,
        Integer.MAX_VALUE - 1, Integer.MAX_VALUE};

    public static void main(String[] args) {
        noSuchMessage();
        anotherWhat();
        withoutASender();
        shortestAndLongest();
        notHandedOver();
        whileASessionGoesOn();
        Talk.finish();
    }

    private static void row(Talk talk, int k, int... want) {
        for (int what = 0; what < 4; what++) {
            Talk.due("message(" + k + ", " + what + ")", talk.mail.message(k, what), want[what]);
        }
    }

    private static void none(Talk talk, int k) {
        row(talk, k, -1, -1, -1, -1);
    }

    private static void noSuchMessage() {
        Talk talk = Talk.greeted();
        for (int n = 0; n <= 10; n++) {
            none(talk, -1);
            none(talk, n);
            none(talk, n + 1);
            if (n > 0) {
                row(talk, n - 1, n + 1, 1, 0, 6);
                row(talk, 0, 2, 1, 0, 6);
            }
            talk.ask("MAIL FROM:<>", "RCPT TO:<a@here>", "DATA", Talk.times(n, 'x'), ".");
        }
        for (int k : FAR) {
            none(talk, k);
        }
    }

    private static void anotherWhat() {
        Talk talk = Talk.addressed();
        for (int what : new int[] {-1, 4, 5, 8, Integer.MIN_VALUE, Integer.MAX_VALUE}) {
            Talk.due("no message, what " + what, talk.mail.message(0, what), -1);
        }
        talk.ask("DATA", "hello", ".");
        row(talk, 0, 7, 1, 11, 8);
        for (int what : new int[] {-1, 4, 5, 8, 256, 257, Integer.MIN_VALUE, Integer.MIN_VALUE + 1, Integer.MAX_VALUE}) {
            Talk.due("what " + what, talk.mail.message(0, what), -1);
        }
    }

    private static void withoutASender() {
        Talk talk = Talk.addressed();
        talk.ask("DATA", ".", "MAIL FROM:<>", "RCPT TO:<b@here>", "DATA", ".", "MAIL FROM:<a@b>", "RCPT TO:<b@here>",
            "DATA", ".");
        row(talk, 0, 0, 1, 11, 8);
        row(talk, 1, 0, 1, 0, 6);
        row(talk, 2, 0, 1, 3, 6);
    }

    private static void shortestAndLongest() {
        Talk talk = Talk.greeted();
        talk.ask("MAIL FROM:<a@b>", "RCPT TO:<a@here>", "DATA", "", ".");
        row(talk, 0, 2, 1, 3, 6);
        // A line of 100 bytes holds an address of 88 behind MAIL FROM:.
        talk.ask("MAIL FROM:<" + Talk.times(40, 'l') + "@" + Talk.times(47, 'd') + ">", "RCPT TO:<12345678@here>");
        talk.ask("RCPT TO:<a@here>", "RCPT TO:<b@here>", "RCPT TO:<c@here>", "DATA", Talk.times(198, 'x'), ".");
        row(talk, 1, 200, 4, 88, 13);
        talk.ask("MAIL FROM:<" + Talk.times(40, 'l') + "@" + Talk.times(46, 'd') + ">", "RCPT TO:<1234567@here>");
        talk.ask("RCPT TO:<a@here>", "RCPT TO:<b@here>", "DATA", Talk.times(197, 'x'), ".");
        row(talk, 2, 199, 3, 87, 12);
        talk.ask("MAIL FROM:<a@" + Talk.times(60, 'd') + ">", "RCPT TO:<123456@here>", "RCPT TO:<12345678@here>", "DATA", ".");
        row(talk, 3, 0, 2, 62, 11);
    }

    private static void notHandedOver() {
        Talk talk = Talk.addressed();
        none(talk, 0);
        talk.ask("DATA", "x");
        none(talk, 0);
        talk.say(".\r");
        none(talk, 0);
        talk.say("\n");
        row(talk, 0, 3, 1, 11, 8);
        talk.ask("MAIL FROM:<>", "RCPT TO:<a@here>", "DATA", Talk.times(199, 'x'), ".");
        none(talk, 1);
        row(talk, 0, 3, 1, 11, 8);
    }

    private static void whileASessionGoesOn() {
        Talk talk = Talk.addressed();
        talk.ask("DATA", "x", ".");
        for (String line : new String[] {"RSET", "LHLO y", "MAIL FROM:<>", "RCPT TO:<bob@here>", "DATA", "more", "QUIT",
            ".", "QUIT"}) {
            talk.ask(line);
            row(talk, 0, 3, 1, 11, 8);
        }
        row(talk, 1, 12, 1, 0, 8);
        talk.mail.open();
        row(talk, 0, 3, 1, 11, 8);
        row(talk, 1, 12, 1, 0, 8);
    }
}
