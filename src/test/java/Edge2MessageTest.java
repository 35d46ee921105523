/** "Terms": a message of more than 200 bytes, 10 messages, a first dot, an answer for each recipient. */
public final class Edge2MessageTest {
    public static void main(String[] args) {
        largestMessage();
        largestMessageByDots();
        largestMessageOfManyLines();
        emptyMessage();
        tenMessages();
        tenMessagesAndOpen();
        bigWhenFull();
        firstDot();
        dotAlone();
        dotSentByteByByte();
        oneAnswerARecipient();
        handedOverOnce();
        startsAnew();
        Talk.finish();
    }

    /** Sends the lines of a message and its end, and looks at what is answered and handed over. */
    private static void message(String name, String told, String text) {
        Talk talk = Talk.addressed();
        talk.ask("RCPT TO:<bob@here>", "DATA");
        talk.say(told + ".\r\n");
        boolean big = text.length() > 200;
        Talk.due(name, talk.heard(), big ? "552 big|552 big|" : "250 <ann@here>|250 <bob@here>|");
        Talk.due("messages by " + name, talk.mail.count(0), big ? 0 : 1);
        Talk.due("bytes of " + name, talk.mail.message(0, 0), big ? -1 : text.length());
        if (!big) {
            Talk.due("text of " + name, talk.part(0, 0, text.length()), text);
        }
        Talk.due("recipients behind " + name, talk.mail.count(3), 0);
        Talk.due("no lines of a message behind " + name, talk.mail.count(2), 0);
        Talk.due("nothing so far behind " + name, talk.mail.count(4), 0);
        Talk.due("order behind " + name, talk.ask("DATA", "RCPT TO:<a@here>", "MAIL FROM:<>"),
            "503 order|503 order|250 sender|");
    }

    private static void largestMessage() {
        for (int length : new int[] {2, 3, 199, 200, 201, 202, 203, 204, 255, 256, 257, 456, 1000}) {
            String text = Talk.times(length - 2, 'x') + "\r\n";
            message("a message of " + length, text, text);
        }
    }

    private static void largestMessageByDots() {
        // A first dot does not count, the others do.
        for (int length = 199; length <= 202; length++) {
            String text = Talk.times(length - 2, 'x') + "\r\n";
            message("a dot and " + length, "." + text, text);
            String dots = Talk.times(length - 2, '.') + "\r\n";
            message("a dot more than " + length, "." + dots, dots);
            String end = Talk.times(length - 5, 'x') + "\r\n";
            message("two lines of " + length, "." + end + "..\r\n", end + ".\r\n");
        }
    }

    private static void largestMessageOfManyLines() {
        String empty = "\r\n";
        message("99 empty lines", empty.repeat(99), empty.repeat(99));
        message("100 empty lines", empty.repeat(100), empty.repeat(100));
        message("101 empty lines", empty.repeat(101), empty.repeat(101));
        for (int n = 66; n <= 67; n++) {
            message(n + " lines of a dot", "..\r\n".repeat(n), ".\r\n".repeat(n));
        }
        message("199 bytes and an empty line", Talk.times(197, 'x') + "\r\n\r\n", Talk.times(197, 'x') + "\r\n\r\n");
        message("198 bytes and an empty line", Talk.times(196, 'x') + "\r\n\r\n", Talk.times(196, 'x') + "\r\n\r\n");
        // CRs and LFs count, too, wherever they stand.
        message("200 with CRs", Talk.times(198, '\r') + "\r\n", Talk.times(198, '\r') + "\r\n");
        message("201 with CRs", Talk.times(199, '\r') + "\r\n", Talk.times(199, '\r') + "\r\n");
        message("200 with LFs", Talk.times(198, '\n') + "\r\n", Talk.times(198, '\n') + "\r\n");
        message("201 with LFs", Talk.times(199, '\n') + "\r\n", Talk.times(199, '\n') + "\r\n");
    }

    private static void emptyMessage() {
        message("an empty message", "", "");
        message("an empty line", "\r\n", "\r\n");
        Talk talk = Talk.addressed();
        Talk.due("an empty message", talk.ask("DATA", "."), "354 go|250 <ann@here>|");
        Talk.due("its bytes", talk.mail.message(0, 0), 0);
        Talk.due("its recipients", talk.mail.message(0, 1), 1);
        Talk.due("its text", talk.mail.bytes(0, 0, 0), 0L);
    }

    private static Talk withMessages(int n) {
        Talk talk = Talk.greeted();
        for (int k = 0; k < n; k++) {
            Talk.due("message " + k, talk.ask("MAIL FROM:<>", "RCPT TO:<a@here>", "DATA", "m" + k, "."),
                "250 sender|250 recipient|354 go|250 <a@here>|");
        }
        return talk;
    }

    private static void tenMessages() {
        for (int n = 8; n <= 10; n++) {
            Talk talk = withMessages(n);
            talk.ask("MAIL FROM:<new@x>", "RCPT TO:<b@here>", "RCPT TO:<c@here>", "DATA", "new");
            Talk.due(n + " messages", talk.ask("."), n < 10 ? "250 <b@here>|250 <c@here>|" : "452 full|452 full|");
            Talk.due("messages behind it", talk.mail.count(0), Math.min(10, n + 1));
            Talk.due("bytes of the last", talk.part(Math.min(9, n), 0, 5), n < 10 ? "new\r\n" : "m9\r\n\0");
            Talk.due("no message behind it", talk.mail.message(Math.min(10, n + 1), 0), -1);
            Talk.due("the first stays", talk.part(0, 0, 4), "m0\r\n");
            Talk.due("all is forgotten", talk.mail.count(3), 0);
            Talk.due("all is forgotten", talk.ask("DATA", "MAIL FROM:<>"), "503 order|250 sender|");
        }
    }

    private static void tenMessagesAndOpen() {
        Talk talk = withMessages(10);
        talk.mail.open();
        talk.ask("LHLO x", "MAIL FROM:<>", "RCPT TO:<a@here>", "DATA");
        Talk.due("full in the next session", talk.ask("x", "."), "452 full|");
        Talk.due("ten stay", talk.mail.count(0), 10);
    }

    private static void bigWhenFull() {
        Talk talk = withMessages(10);
        for (int length = 200; length <= 201; length++) {
            talk.ask("MAIL FROM:<>", "RCPT TO:<a@here>", "DATA");
            Talk.due(length + " bytes when full", talk.ask(Talk.times(length - 2, 'x'), "."),
                length > 200 ? "552 big|" : "452 full|");
        }
        talk = withMessages(9);
        talk.ask("MAIL FROM:<>", "RCPT TO:<a@here>", "DATA");
        Talk.due("a big one is no tenth", talk.ask(Talk.times(199, 'x'), "."), "552 big|");
        talk.ask("MAIL FROM:<>", "RCPT TO:<a@here>", "DATA");
        Talk.due("the tenth", talk.ask(Talk.times(198, 'x'), "."), "250 <a@here>|");
    }

    private static void firstDot() {
        String[][] runs = {
            {".a\r\n", "a\r\n"}, {"..\r\n", ".\r\n"}, {"..a\r\n", ".a\r\n"}, {"...\r\n", "..\r\n"}, {"....\r\n", "...\r\n"},
            {". \r\n", " \r\n"}, {".\0\r\n", "\0\r\n"}, {".\n\r\n", "\n\r\n"}, {".\r\r\n", "\r\r\n"},
            {".\ra\r\n", "\ra\r\n"}, {".\r.\r\n", "\r.\r\n"}, {".\n.\r\n", "\n.\r\n"}, {"a.\r\n", "a.\r\n"},
            {"a..b\r\n", "a..b\r\n"}, {" .\r\n", " .\r\n"}, {"a\r\n.b\r\n", "a\r\nb\r\n"}, {"a\r\n..\r\n", "a\r\n.\r\n"},
            {"\r\n.b\r\n", "\r\nb\r\n"}, {"..\r\n..\r\n", ".\r\n.\r\n"}, {"\u00ae\r\n", "\u00ae\r\n"},
            {"a\r\n\n.\r\n", "a\r\n\n.\r\n"}, {"..\r\n.a\r\n...\r\n", ".\r\na\r\n..\r\n"},
        };
        for (String[] run : runs) {
            message("message " + run[0].replace("\r", "\\r").replace("\n", "\\n"), run[0], run[1]);
        }
    }

    private static void dotAlone() {
        // Dots between a CR and a LF that do not stand together, or not alone, end nothing.
        for (String told : new String[] {"\n.\r\n", "\r.\r\n", "a\n.\r\n", "a\r.\r\n", "\n\r.\r\n", "a.\r\n", "\0.\r\n",
            ". \r\n", ".\0\r\n", "..\r\n", ".\r\r\n", ".\n", ".\r", ".\n\n", "\u00ae\r\n", ".\r\u008a", "\r\n\n.\r\n",
            "a\r\n\n.\r\n", "..\r\n\n.\r\n"}) {
            String name = told.replace("\r", "\\r").replace("\n", "\\n");
            Talk talk = Talk.addressed();
            noEnd(talk, name, told);
            // A second message begins as the first one does.
            talk.ask("", ".", "MAIL FROM:<>", "RCPT TO:<a@here>");
            noEnd(talk, name + " of the next", told);
        }
    }

    private static void noEnd(Talk talk, String name, String told) {
        talk.ask("DATA");
        talk.say(told);
        Talk.due("no end by " + name, talk.mail.count(2), 1);
        Talk.due("no answer to " + name, talk.heard(), "");
    }

    private static void dotSentByteByByte() {
        Talk talk = Talk.addressed();
        talk.ask("DATA");
        for (String one : new String[] {".", ".", "\r", "\n", ".", "\r"}) {
            talk.say(one);
            Talk.due("lines come", talk.mail.count(2), 1);
        }
        Talk.due("no message yet", talk.mail.count(0), 0);
        talk.say("\n");
        Talk.due("lines have come", talk.mail.count(2), 0);
        Talk.due("a message", talk.mail.count(0), 1);
        Talk.due("its text", talk.part(0, 0, 4), ".\r\n\0");
    }

    private static void oneAnswerARecipient() {
        String[] paths = {"<d@here>", "<12345678@HERE>", "<d@here>", "<a.b@Here>"};
        for (int n = 1; n <= 4; n++) {
            Talk talk = Talk.greeted();
            talk.ask("MAIL FROM:<>");
            StringBuilder want = new StringBuilder();
            for (int i = 0; i < n; i++) {
                talk.ask("RCPT TO:" + paths[i]);
                want.append("250 ").append(paths[i]).append('|');
            }
            talk.ask("DATA");
            Talk.due(n + " recipients", talk.ask("x", "."), want);
            Talk.due(n + " recipients, one message", talk.mail.count(0), 1);
            Talk.due("recipients of it", talk.mail.message(0, 1), n);
            Talk.due("the first of them", talk.part(0, 2, 6), "d@here");
        }
    }

    private static void handedOverOnce() {
        Talk talk = Talk.addressed();
        Talk.due("a recipient told twice", talk.ask("RCPT TO:<ann@here>", "DATA", "x", "."),
            "250 recipient|354 go|250 <ann@here>|250 <ann@here>|");
        Talk.due("handed over once", talk.mail.count(0), 1);
        Talk.due("lines behind it are commands", talk.ask("."), "500 unknown|");
        Talk.due("no second message", talk.mail.count(0), 1);
    }

    private static void startsAnew() {
        Talk talk = Talk.addressed();
        talk.ask("DATA", Talk.times(300, 'x'), ".");
        talk.ask("MAIL FROM:<>", "RCPT TO:<c@here>", "DATA");
        Talk.due("a message behind a big one", talk.ask("y", "."), "250 <c@here>|");
        Talk.due("its text", talk.part(0, 0, 4), "y\r\n\0");
        Talk.due("its sender", talk.mail.message(0, 2), 0);
        talk.ask("MAIL FROM:<>", "RCPT TO:<d@here>", "DATA");
        Talk.due("and another one", talk.ask("."), "250 <d@here>|");
        Talk.due("its text", talk.mail.message(1, 0), 0);
        Talk.due("its recipients", talk.mail.message(1, 1), 1);
    }
}
