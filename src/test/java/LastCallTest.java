/** "What it is": an object is used for at most 512 calls; all of them are answered, whatever they are. */
public final class LastCallTest {
    private static final int CALLS = 512;

    public static void main(String[] args) {
        oneMessageInAllCalls();
        lineInAllCalls();
        linesInAllCalls();
        messagesInAllCalls();
        repliesToTheLast();
        openInAllCalls();
        looksInAllCalls();
        Talk.finish();
    }

    private static void left(Talk talk, int want) {
        Talk.due("calls made", talk.mail.calls(), want);
    }

    private static void oneMessageInAllCalls() {
        Talk talk = Talk.addressed();
        talk.ask("DATA");
        while (talk.mail.calls() < CALLS - 2) {
            Talk.due("call " + talk.mail.calls(), talk.mail.send(0x2e2e78780d0a2e78L, 8), true);
        }
        Talk.due("the last but one", talk.mail.send(0x0d0a2e0d0aL, 5), true);
        Talk.due("the last", talk.mail.reply(), 0x07_35353220626967L);
        left(talk, CALLS);
    }

    private static void lineInAllCalls() {
        Talk talk = new Talk();
        for (int i = 0; i < CALLS - 2; i++) {
            Talk.due("call " + i, talk.mail.send(0x7878787878787878L, 8), true);
        }
        Talk.due("the last but one", talk.mail.send(0x0d0aL, 2), true);
        Talk.due("the last", talk.mail.count(5), 14);
        left(talk, CALLS);
    }

    private static void linesInAllCalls() {
        Talk talk = new Talk();
        for (int i = 0; i < CALLS - 1; i++) {
            Talk.due("call " + i, talk.mail.send(0x0d0a0d0a0d0a0d0aL, 8), true);
        }
        Talk.due("the last", talk.mail.count(5), 400);
        left(talk, CALLS);
    }

    private static void messagesInAllCalls() {
        Talk talk = new Talk();
        talk.lines("LHLO x");
        int handedOver = 0;
        while (talk.mail.calls() <= CALLS - 6) {
            talk.say("MAIL FROM:<>\r\nRCPT TO:<a@here>\r\nDATA\r\n");
            // The end of a message and the end of a call need not fall together.
            talk.say(".\r\n");
            handedOver++;
            if (talk.mail.calls() < CALLS - 10) {
                Talk.due("messages", talk.mail.count(0), Math.min(10, handedOver));
            }
        }
        while (talk.mail.calls() < CALLS - 1) {
            talk.mail.send('x', 1);
        }
        Talk.due("the last", talk.mail.message(9, 3), 6);
        left(talk, CALLS);
    }

    private static void repliesToTheLast() {
        Talk talk = new Talk();
        for (int i = 0; i < CALLS / 2; i++) {
            talk.mail.send(0x4e4f4f500d0aL, 6);
            // Each round leaves one byte more, and begins its reply one byte earlier in the answer.
            Talk.due("reply " + i, talk.mail.reply(), roundOf(i));
        }
        left(talk, CALLS);
    }

    private static long roundOf(int round) {
        long word = 7;
        for (int i = 0; i < 7; i++) {
            word = word << 8 | "250 ok\r\n".charAt((7 * round + i) % 8);
        }
        return word;
    }

    private static void openInAllCalls() {
        Talk talk = new Talk();
        talk.lines("QUIT");
        Talk.due("without a session", talk.mail.open(), false);
        for (int i = 2; i < CALLS; i++) {
            Talk.due("call " + i, talk.mail.open(), true);
        }
        left(talk, CALLS);
    }

    private static void looksInAllCalls() {
        Talk talk = Talk.addressed();
        talk.ask("DATA", "text", ".");
        while (talk.mail.calls() < CALLS - 3) {
            Talk.due("message", talk.mail.message(0, 0), 6);
            Talk.due("bytes", talk.mail.bytes(0, 0, 0), 0x746578740d0a0000L);
            Talk.due("count", talk.mail.count(0), 1);
        }
        while (talk.mail.calls() < CALLS) {
            Talk.due("reply", talk.mail.reply(), 0L);
        }
        left(talk, CALLS);
    }
}
