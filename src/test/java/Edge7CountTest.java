/** Promise 7: each count at its smallest and largest; at most 202 bytes so far; -1 for another what. */
public final class Edge7CountTest {
    public static void main(String[] args) {
        anotherWhat();
        messages();
        session();
        linesOfAMessage();
        recipients();
        bytesOfTheLine();
        bytesOfTheMessage();
        bytesOfAFullMessage();
        bytesOfDots();
        bytesThatWait();
        countingChangesNothing();
        Talk.finish();
    }

    private static void anotherWhat() {
        Talk talk = Talk.addressed();
        talk.ask("DATA", "x");
        for (Talk one : new Talk[] {new Talk(), Talk.addressed(), talk, Talk.behind("QUIT")}) {
            for (int what : new int[] {Integer.MIN_VALUE, Integer.MIN_VALUE + 1, -256, -2, -1, 6, 7, 256, 65536,
                Integer.MAX_VALUE}) {
                Talk.due("count(" + what + ")", one.mail.count(what), -1);
            }
            for (int what = 0; what < 6; what++) {
                Talk.due("count(" + what + ") is no -1", one.mail.count(what) >= 0, true);
            }
        }
    }

    private static void messages() {
        Talk talk = Talk.greeted();
        for (int n = 0; n <= 12; n++) {
            Talk.due("messages behind " + n, talk.mail.count(0), Math.min(n, 10));
            talk.say("MAIL FROM:<>\r\nRCPT TO:<a@here>\r\nDATA\r\n.\r");
            Talk.due("messages ahead of the LF", talk.mail.count(0), Math.min(n, 10));
            talk.say("\n");
            talk.heard();
        }
    }

    private static void session() {
        Talk talk = new Talk();
        Talk.due("a new object", talk.mail.count(1), 1);
        talk.say("QUIT\r");
        Talk.due("ahead of the LF", talk.mail.count(1), 1);
        talk.say("\n");
        Talk.due("behind QUIT", talk.mail.count(1), 0);
        talk.say("QUIT\r\n");
        Talk.due("behind bytes that are refused", talk.mail.count(1), 0);
        talk.mail.open();
        Talk.due("behind open", talk.mail.count(1), 1);
        talk.mail.open();
        Talk.due("behind open", talk.mail.count(1), 1);
    }

    private static void linesOfAMessage() {
        Talk talk = Talk.greeted();
        talk.ask("DATA");
        Talk.due("DATA that is refused", talk.mail.count(2), 0);
        talk.ask("MAIL FROM:<>", "RCPT TO:<a@here>", "DATA x");
        Talk.due("DATA that is refused", talk.mail.count(2), 0);
        talk.say("DATA\r");
        Talk.due("ahead of the LF", talk.mail.count(2), 0);
        talk.say("\n");
        Talk.due("behind DATA", talk.mail.count(2), 1);
        talk.say("QUIT\r\n.\r");
        Talk.due("ahead of the LF", talk.mail.count(2), 1);
        talk.say("\n");
        Talk.due("behind the message", talk.mail.count(2), 0);
    }

    private static void recipients() {
        Talk talk = Talk.greeted();
        Talk.due("none", talk.mail.count(3), 0);
        talk.ask("RCPT TO:<a@here>", "MAIL FROM:<>");
        for (int n = 0; n <= 6; n++) {
            Talk.due("recipients behind " + n, talk.mail.count(3), Math.min(n, 4));
            talk.ask("RCPT TO:<a@away>", "RCPT TO:<a@here");
            Talk.due("what is refused does not count", talk.mail.count(3), Math.min(n, 4));
            talk.say("RCPT TO:<a@here>\r");
            Talk.due("ahead of the LF", talk.mail.count(3), Math.min(n, 4));
            talk.say("\n");
            talk.heard();
        }
        talk.ask("DATA", "x");
        Talk.due("in a message", talk.mail.count(3), 4);
        talk.ask(".");
        Talk.due("behind a message", talk.mail.count(3), 0);
    }

    private static void soFar(Talk talk, String name, int want) {
        Talk.due("bytes so far, " + name, talk.mail.count(4), want);
    }

    private static void bytesOfTheLine() {
        Talk talk = new Talk();
        soFar(talk, "a new object", 0);
        for (int n = 1; n <= 210; n++) {
            talk.say("x");
            soFar(talk, "a line of " + n, Math.min(n, 202));
        }
        talk.say("\r");
        soFar(talk, "a CR behind 210", 202);
        talk.say("\n");
        soFar(talk, "behind a line", 0);
        talk = new Talk();
        for (int n = 200; n <= 203; n++) {
            talk.say(Talk.times(n - 1, 'x') + "\r");
            soFar(talk, "with a CR " + n, Math.min(n, 202));
            talk.say("\n");
            soFar(talk, "behind a line", 0);
        }
        talk.say("NOOP\r\nab");
        soFar(talk, "behind a line in the same call", 2);
        Talk.due("sends 8 bytes", talk.say("cdefghij"), true);
        soFar(talk, "eight more", 10);
    }

    private static void bytesOfTheMessage() {
        Talk talk = Talk.addressed();
        talk.say("DATA\r");
        soFar(talk, "the line DATA and its CR", 5);
        talk.say("\n");
        soFar(talk, "a message begins", 0);
        for (int n = 1; n <= 210; n++) {
            talk.say("x");
            soFar(talk, "a message of " + n, Math.min(n, 202));
        }
        talk.say("\r\n.\r");
        soFar(talk, "a message of 212", 202);
        talk.say("\n");
        soFar(talk, "behind a message", 0);
        Talk.due("big", talk.heard(), "354 go|552 big|");
    }

    private static void bytesOfAFullMessage() {
        for (int length = 198; length <= 204; length++) {
            Talk talk = Talk.addressed();
            talk.ask("DATA", Talk.times(length - 2, 'x'));
            soFar(talk, "whole lines of " + length, Math.min(length, 202));
            talk.say(".");
            soFar(talk, "and a first dot", Math.min(length, 202));
            talk.say("\r");
            soFar(talk, "and its CR", Math.min(length + 1, 202));
            talk.say("\n");
            soFar(talk, "behind a message", 0);
            Talk.due("message of " + length, talk.heard(), length > 200 ? "552 big|" : "250 <ann@here>|");
        }
    }

    private static void bytesOfDots() {
        // Each byte of the lines, and the count behind it: a line's first dot is no byte of the message.
        String told = "..\r\na\r\n.b\r\n.\r\r\n...\r\n";
        int[] want = {0, 1, 2, 3, 4, 5, 6, 6, 7, 8, 9, 9, 10, 11, 12, 12, 13, 14, 15, 16};
        Talk talk = Talk.addressed();
        talk.ask("DATA");
        for (int i = 0; i < want.length; i++) {
            talk.say(told.substring(i, i + 1));
            soFar(talk, "behind byte " + i + " of dots", want[i]);
        }
        talk.ask(".");
        Talk.due("bytes of the message", talk.mail.message(0, 0), 16);
    }

    private static void bytesThatWait() {
        Talk talk = new Talk();
        for (int n = 0; n <= 52; n++) {
            Talk.due("bytes behind " + n + " NOOPs", talk.mail.count(5), Math.min(8 * n, 400));
            talk.lines("NOOP");
        }
        for (int n = 400; n > 0; n -= 7) {
            Talk.due("bytes that wait", talk.mail.count(5), n);
            talk.mail.reply();
        }
        Talk.due("none waits", talk.mail.count(5), 0);
    }

    private static void countingChangesNothing() {
        Talk talk = Talk.addressed();
        talk.lines("NOOP");
        talk.say("NO");
        String shown = talk.shown();
        for (int round = 0; round < 5; round++) {
            Talk.due("what is shown", talk.shown(), shown);
        }
        talk.say("OP\r\n");
        Talk.due("answers", talk.heard(), "250 ok|250 ok|");
    }
}
