/** Promise 7: count tells the state of the session. */
public final class Promise7CountTest {
    public static void main(String[] args) {
        for (int what : new int[] {-1, 6, 7, Integer.MIN_VALUE, Integer.MAX_VALUE}) {
            Talk.due("count(" + what + ")", new MailLines().count(what), -1);
        }
        commandLine();
        messageLines();
        recipientsTold();
        waiting();
        Talk.finish();
    }

    private static void soFar(Talk talk, String told, int want) {
        talk.say(told);
        String name = told.replace("\r", "\\r").replace("\n", "\\n");
        Talk.due("count(4) behind " + name, talk.mail.count(4), want);
    }

    private static void commandLine() {
        Talk talk = new Talk();
        soFar(talk, "N", 1);
        soFar(talk, "OOP", 4);
        soFar(talk, "\r", 5);
        soFar(talk, "\n", 0);
        soFar(talk, "\n", 1);
        soFar(talk, "\r", 2);
        soFar(talk, "\r", 3);
        soFar(talk, "\n.", 1);
        soFar(talk, Talk.times(200, 'x'), 201);
        soFar(talk, "x", 202);
        soFar(talk, "x", 202);
        soFar(talk, "\r", 202);
        soFar(talk, "\nab", 2);
    }

    private static void messageLines() {
        Talk talk = Talk.addressed();
        Talk.due("no lines of a message", talk.mail.count(2), 0);
        soFar(talk, "DATA\r", 5);
        soFar(talk, "\n", 0);
        Talk.due("lines of a message", talk.mail.count(2), 1);
        Talk.due("recipients are there still", talk.mail.count(3), 1);
        soFar(talk, "ab", 2);
        soFar(talk, "\r", 3);
        soFar(talk, "\n", 4);
        soFar(talk, "..c", 6);
        soFar(talk, "\r\n", 8);
        soFar(talk, "..", 9);
        soFar(talk, "\r\n", 11);
        soFar(talk, Talk.times(189, 'x'), 200);
        soFar(talk, "x", 201);
        soFar(talk, "x", 202);
        soFar(talk, "xxxx\r\n", 202);
        Talk.due("lines of a message", talk.mail.count(2), 1);
        soFar(talk, ".\r\n", 0);
        Talk.due("no lines of a message", talk.mail.count(2), 0);
        Talk.due("no message", talk.mail.count(0), 0);
        Talk.due("recipients are forgotten", talk.mail.count(3), 0);
        talk.ask("MAIL FROM:<>", "RCPT TO:<a@here>", "RCPT TO:<b@here>");
        Talk.due("two recipients", talk.mail.count(3), 2);
        talk.ask("DATA", ".");
        Talk.due("a message", talk.mail.count(0), 1);
        talk.ask("QUIT");
        Talk.due("no session", talk.mail.count(1), 0);
    }

    private static void recipientsTold() {
        Talk talk = Talk.addressed();
        Talk.due("one is told", talk.mail.count(3), 1);
        talk.ask("RCPT TO:<far@away>", "RCPT TO:<", "MAIL FROM:<>", "LHLO", "RSET x", "NOOP", "QUIT x");
        Talk.due("what is refused forgets none", talk.mail.count(3), 1);
        talk.ask("RCPT TO:<b@here>", "RCPT TO:<c@here>", "RCPT TO:<d@here>", "RCPT TO:<e@here>");
        Talk.due("four and no more", talk.mail.count(3), 4);
        talk.ask("QUIT");
        Talk.due("QUIT forgets none", talk.mail.count(3), 4);
        talk.lines("RSET");
        Talk.due("nothing is heeded behind QUIT", talk.mail.count(3), 4);
        talk.mail.open();
        Talk.due("a session that begins anew has none", talk.mail.count(3), 0);

        talk = Talk.addressed();
        talk.ask("RSET");
        Talk.due("RSET forgets", talk.mail.count(3), 0);
        talk.ask("QUIT");
        Talk.due("forgotten ahead of QUIT", talk.mail.count(3), 0);
        talk = Talk.addressed();
        talk.ask("LHLO y");
        Talk.due("LHLO forgets", talk.mail.count(3), 0);
        talk = Talk.addressed();
        talk.ask("DATA", ".", "QUIT");
        Talk.due("forgotten behind a message", talk.mail.count(3), 0);
    }

    private static void waiting() {
        Talk talk = new Talk();
        talk.lines("NOOP");
        Talk.due("8 wait", talk.mail.count(5), 8);
        talk.mail.reply();
        Talk.due("1 waits", talk.mail.count(5), 1);
        talk.mail.reply();
        Talk.due("none waits", talk.mail.count(5), 0);
        talk.mail.reply();
        Talk.due("none waits", talk.mail.count(5), 0);
    }
}
