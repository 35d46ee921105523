/** Promise 1: a session has begun, no messages; all memory is the class's own, so objects stand apart. */
public final class Edge1NewObjectTest {
    private static final String[] ALL = {"LHLO x", "MAIL FROM:<joe@far.net>", "RCPT TO:<ann@here>", "DATA", "text", ".",
        "MAIL FROM:<>", "RCPT TO:<b@here>"};

    public static void main(String[] args) {
        sessionHasBegun();
        noMessages();
        besideAnotherObject();
        inTurn();
        Talk.finish();
    }

    private static void isNew(Talk talk) {
        int[] counts = {-1, 0, 1, 0, 0, 0, 0, -1};
        for (int what = -1; what < 7; what++) {
            Talk.due("count(" + what + ")", talk.mail.count(what), counts[what + 1]);
        }
        for (int k = -1; k <= 10; k++) {
            for (int what = 0; what < 4; what++) {
                Talk.due("message(" + k + ", " + what + ")", talk.mail.message(k, what), -1);
                Talk.due("bytes(" + k + ", " + what + ", 0)", talk.mail.bytes(k, what, 0), -1L);
            }
        }
        Talk.due("reply()", talk.mail.reply(), 0L);
        Talk.due("no LHLO yet", talk.ask("MAIL FROM:<>", "RCPT TO:<a@here>", "DATA"), "503 order|503 order|503 order|");
        Talk.due("LHLO", talk.ask("LHLO x", "MAIL FROM:<>"), "250 here|250 sender|");
    }

    private static void sessionHasBegun() {
        Talk.due("a byte is taken", new MailLines().send('N', 1), true);
        Talk.due("a line is answered", new Talk().ask("NOOP"), "250 ok|");
        Talk.due("there was a session", new MailLines().open(), true);
    }

    private static void noMessages() {
        isNew(new Talk());
    }

    private static void besideAnotherObject() {
        for (String last : new String[] {"NOOP", "DATA", "QUIT"}) {
            Talk before = new Talk();
            Talk used = new Talk();
            used.lines(ALL);
            used.lines(last);
            used.say("NOO");
            isNew(before);
            isNew(new Talk());
        }
    }

    private static void inTurn() {
        Talk one = new Talk();
        Talk other = new Talk();
        for (String line : ALL) {
            Talk.due("the other", other.ask("FOO"), "500 unknown|");
            one.lines(line);
        }
        Talk alone = new Talk();
        alone.lines(ALL);
        Talk.due("what is shown", one.shown(), alone.shown());
        Talk.due("what is heard", one.heard(), alone.heard());
        Talk.due("the other is as new", other.shown(), new Talk().shown());
    }
}
