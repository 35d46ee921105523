/** Promise 3: at most 7 bytes are taken; 0 if there are none; at most 400 wait, what is beyond is left out. */
public final class Edge3ReplyTest {
    public static void main(String[] args) {
        noneWaits();
        sevenAreTaken();
        replyOfEachLength();
        mostWait();
        cutAtEachPlace();
        leftOutForGood();
        roomAgain();
        answersOfAMessageCut();
        heededAllTheSame();
        Talk.finish();
    }

    /** An object with so many bytes of answers waiting: n NOOPs of which n replies of 7 bytes are taken. */
    private static Talk waiting(int n) {
        Talk talk = new Talk();
        for (int i = 0; i < n; i++) {
            talk.lines("NOOP");
        }
        for (int i = 0; i < n; i++) {
            talk.mail.reply();
        }
        Talk.due("bytes that wait", talk.mail.count(5), n);
        return talk;
    }

    /** An object with 386 .. 400 bytes of answers waiting: each reply takes 7, each NOOP adds 8. */
    private static Talk nearlyFull(int wait) {
        int noops = (wait - 386) % 7;
        int replies = noops + (400 - wait + 6) / 7;
        Talk talk = new Talk();
        for (int i = 0; i < 50; i++) {
            talk.lines("NOOP");
        }
        for (int i = 0; i < replies; i++) {
            talk.mail.reply();
        }
        for (int i = 0; i < noops; i++) {
            talk.lines("NOOP");
        }
        Talk.due("bytes that wait", talk.mail.count(5), wait);
        return talk;
    }

    private static void noneWaits() {
        Talk talk = new Talk();
        Talk.due("a new object", talk.mail.reply(), 0L);
        talk.say("NOOP\r");
        Talk.due("ahead of the LF", talk.mail.reply(), 0L);
        talk.say("\n");
        talk.mail.reply();
        talk.mail.reply();
        Talk.due("all taken", talk.mail.reply(), 0L);
        Talk.due("all taken", talk.mail.reply(), 0L);
        Talk.due("none waits", talk.mail.count(5), 0);
        talk.lines("QUIT");
        talk.heard();
        Talk.due("no session", talk.mail.reply(), 0L);
        Talk.due("no session by it", talk.mail.count(1), 0);
    }

    private static void sevenAreTaken() {
        Talk talk = new Talk();
        talk.lines("NOOP", "NOOP");
        Talk.due("16 wait", talk.mail.count(5), 16);
        Talk.due("seven", talk.mail.reply(), 0x07_323530206f6b0dL);
        Talk.due("9 wait", talk.mail.count(5), 9);
        Talk.due("seven, of two answers", talk.mail.reply(), 0x07_0a323530206f6bL);
        Talk.due("2 wait", talk.mail.count(5), 2);
        Talk.due("the last two", talk.mail.reply(), 0x02_0d0a0000000000L);
        Talk.due("none waits", talk.mail.count(5), 0);
    }

    private static void replyOfEachLength() {
        String end = "250 ok\r\n";
        for (int n = 1; n <= 8; n++) {
            Talk talk = waiting(n);
            long want = Math.min(n, 7);
            for (int i = 0; i < 7; i++) {
                want = want << 8 | (i < n ? end.charAt(8 - n + i) : 0);
            }
            Talk.due(n + " wait", talk.mail.reply(), want);
            Talk.due(n + " have waited", talk.mail.count(5), n - Math.min(n, 7));
            Talk.due(n + " have waited", talk.mail.reply(), n < 8 ? 0L : 0x01_0a000000000000L);
        }
    }

    /** Behind 47 NOOPs, of 376 bytes, two more lines. */
    private static void most(String one, String other, int wait, String heard) {
        Talk talk = new Talk();
        for (int i = 0; i < 47; i++) {
            talk.lines("NOOP");
        }
        talk.lines(one, other);
        Talk.due(one + " and " + other, talk.mail.count(5), wait);
        Talk.due(one + " and " + other, talk.heard(), "250 ok|".repeat(47) + heard);
    }

    private static void mostWait() {
        most("FOO", "LHLO x", 399, "500 unknown|250 here|");
        most("NOOP x", "RCPT x", 399, "501 syntax|503 order|");
        most("FOO", "DATA", 400, "500 unknown|503 order|");
        most("NOOP x", "LHLO ", 400, "501 syntax|501 syntax|");
        most("FOO", "NOOP x", 400, "500 unknown|501 syntax\r");
        most("FOO", "FOO", 400, "500 unknown|500 unknown");
    }

    private static void cutAtEachPlace() {
        String answer = "500 unknown\r\n";
        for (int wait = 386; wait <= 400; wait++) {
            Talk talk = nearlyFull(wait);
            talk.lines("FOO");
            int room = Math.min(answer.length(), 400 - wait);
            Talk.due(wait + " wait, and an answer", talk.mail.count(5), wait + room);
            String all = talk.heard().replace("|", "\r\n");
            Talk.due(wait + " wait, and an answer", all.length(), wait + room);
            String want = "250 ok\r\n" + answer.substring(0, room);
            Talk.due(wait + " wait, and an answer", all.substring(all.length() - want.length()), want);
        }
    }

    private static void leftOutForGood() {
        Talk talk = nearlyFull(400);
        talk.lines("FOO", "LHLO x", "FOO");
        for (int i = 0; i < 57; i++) {
            Talk.due("taken " + i, talk.mail.reply() >>> 56, 7L);
        }
        Talk.due("the 400th byte", talk.mail.reply(), 0x01_0a000000000000L);
        Talk.due("none behind it", talk.mail.reply(), 0L);
        Talk.due("the next answer is whole", talk.ask("NOOP"), "250 ok|");
    }

    private static void roomAgain() {
        Talk talk = nearlyFull(400);
        talk.mail.reply();
        Talk.due("seven are taken", talk.mail.count(5), 393);
        talk.lines("NOOP");
        Talk.due("seven have come", talk.mail.count(5), 400);
        Talk.due("cut by one", talk.heard(), "\n" + "250 ok|".repeat(49) + "250 ok\r");
    }

    private static void answersOfAMessageCut() {
        Talk talk = Talk.behind("LHLO x", "MAIL FROM:<>", "RCPT TO:<a@here>", "RCPT TO:<b@here>", "RCPT TO:<c@here>");
        for (int i = 0; i < 48; i++) {
            talk.lines("NOOP");
        }
        talk.lines("DATA", "x", ".");
        Talk.due("384 and 8 and three answers of 14", talk.mail.count(5), 400);
        Talk.due("handed over all the same", talk.mail.count(0), 1);
        Talk.due("recipients of it", talk.mail.message(0, 1), 3);
        Talk.due("what waits", talk.heard(), "250 ok|".repeat(48) + "354 go|250 <a@h");
    }

    private static void heededAllTheSame() {
        Talk talk = nearlyFull(400);
        talk.lines("LHLO x", "MAIL FROM:<>", "RCPT TO:<a@here>");
        Talk.due("a recipient is told", talk.mail.count(3), 1);
        talk.lines("DATA", "x", ".");
        Talk.due("a message is handed over", talk.mail.count(0), 1);
        talk.lines("QUIT");
        Talk.due("the session ends", talk.mail.count(1), 0);
        Talk.due("400 wait", talk.mail.count(5), 400);
        Talk.due("answers from before", talk.heard(), "250 ok|".repeat(50));
    }
}
