/** Promise 2: send, and the lines, commands and paths of "Terms". */
public final class Promise2SendTest {
    public static void main(String[] args) {
        arguments();
        lines();
        firstWords();
        greeting();
        orderAheadOfGreeting();
        sender();
        sizes();
        recipients();
        paths();
        resetAndQuit();
        data();
        dots();
        bigAndFull();
        Talk.finish();
    }

    private static void due(String what, Object got, Object want) {
        Talk.due(what, got, want);
    }

    private static void arguments() {
        MailLines mail = new MailLines();
        for (int n : new int[] {0, -1, 9, Integer.MIN_VALUE, Integer.MAX_VALUE}) {
            due("send n=" + n, mail.send(-1L, n), false);
        }
        due("a refused call changes nothing", mail.count(4), 0);
        for (int n = 1; n <= 8; n++) {
            MailLines one = new MailLines();
            due("send n=" + n, one.send(-1L, n), true);
            due("bytes of n=" + n, one.count(4), n);
        }
        Talk talk = new Talk();
        // Only the lowest bytes count, the highest of them first.
        talk.mail.send(0x58585858584e4f4fL, 3);
        talk.mail.send(0x7878787878500d0aL, 3);
        due("lowest bytes, highest first", talk.heard(), "250 ok|");
    }

    private static void lines() {
        Talk talk = new Talk();
        due("empty line", talk.ask(""), "500 unknown|");
        due("CR alone ends nothing", talk.ask("NOOP\rNOOP"), "500 unknown|");
        due("LF alone ends nothing", talk.ask("NOOP\nNOOP"), "500 unknown|");
        due("CR ahead of CRLF", talk.ask("NOOP\r"), "500 unknown|");
        due("LF behind CRLF", talk.ask("NOOP", "\nNOOP"), "250 ok|500 unknown|");
        due("100 bytes", talk.ask(Talk.times(100, 'x')), "500 unknown|");
        due("101 bytes", talk.ask(Talk.times(101, 'x')), "500 too long|");
        due("101 bytes, the last CR", talk.ask(Talk.times(100, 'x') + "\r"), "500 too long|");
        due("201 bytes", talk.ask(Talk.times(201, 'x')), "500 too long|");
        due("300 bytes", talk.ask(Talk.times(300, 'x')), "500 too long|");
        due("100 bytes of NOOP", talk.ask("NOOP " + Talk.times(95, 'x')), "501 syntax|");
        due("101 bytes of NOOP", talk.ask("NOOP " + Talk.times(96, 'x')), "500 too long|");
        due("101 bytes of MAIL", talk.ask("MAIL " + Talk.times(96, 'x')), "500 too long|");
        due("afterwards", talk.ask("NOOP"), "250 ok|");
    }

    private static void firstWords() {
        Talk talk = Talk.greeted();
        String[] words = {"FOO", "FOO bar", "NOO", "NOOPS", "NOOP\t", " NOOP", "LHLOX x", "MAILFROM:<>",
            "MAIL\tFROM:<>", "RCPT:", "DATA\0", "RSE", "QUI", "QUITS", "EHLO x", "HELO x", "\u00ff\u00fe"};
        for (String word : words) {
            due("first word of '" + word + "'", talk.ask(word), "500 unknown|");
        }
        for (String line : new String[] {"NOOP ", "NOOP x", "RSET ", "RSET x", "QUIT ", "QUIT x", "DATA ", "DATA x",
            "LHLO", "MAIL", "MAIL ", "RCPT", "RCPT "}) {
            due("rest of '" + line + "'", talk.ask(line), "501 syntax|");
        }
        for (String line : new String[] {"NOOP", "noop", "nOoP", "rset", "RsEt"}) {
            due(line, talk.ask(line), "250 ok|");
        }
        // Bytes beside the letters have no case: 'N' - 'n' apart from '.' and '@', '`' and the like.
        due("no case for marks", talk.ask("NOO0"), "500 unknown|");
        due("no case for marks", talk.ask("NOO\u00d0"), "500 unknown|");
        due("no case for marks", talk.ask("LHL/ x"), "500 unknown|");
    }

    private static void greeting() {
        Talk talk = new Talk();
        String d60 = Talk.times(30, 'a') + "." + Talk.times(29, 'b');
        for (String domain : new String[] {"x", "x.y", "-", "-a-.b", "0.9", "A.Z", "a.b.c.d", d60}) {
            due("LHLO " + domain, talk.ask("LHLO " + domain), "250 here|");
        }
        for (String rest : new String[] {"", " ", " .", " .a", " a.", " a..b", "  a", " a ", " a b", " a_b", " a@b",
            " <a>", " a\u00e9", " " + d60 + "b", "\ta"}) {
            String want = rest.startsWith("\t") ? "500 unknown|" : "501 syntax|";
            due("LHLO" + rest, talk.ask("LHLO" + rest), want);
        }
        due("a word without case", talk.ask("lHlO x"), "250 here|");

        Talk told = Talk.addressed();
        due("bad LHLO forgets nothing", told.ask("LHLO a..b", "DATA", "."), "501 syntax|354 go|250 <ann@here>|");
        told = Talk.addressed();
        due("LHLO forgets", told.ask("LHLO y", "DATA", "RCPT TO:<a@here>", "MAIL FROM:<>"),
            "250 here|503 order|503 order|250 sender|");
    }

    private static void orderAheadOfGreeting() {
        for (String line : new String[] {"MAIL FROM:<>", "MAIL", "MAIL x", "RCPT TO:<a@here>", "RCPT", "DATA", "DATA x",
            "mail from:<>", "MAIL FROM:<> SIZE=201"}) {
            due(line + " ahead of LHLO", new Talk().ask(line), "503 order|");
        }
        due("others ahead of LHLO", new Talk().ask("RSET", "NOOP", "RSET x", "FOO", "QUIT"),
            "250 ok|250 ok|501 syntax|500 unknown|221 bye|");
        due("a wrong LHLO is none", new Talk().ask("LHLO", "MAIL FROM:<>"), "501 syntax|503 order|");
        due("RSET keeps LHLO", Talk.greeted().ask("RSET", "MAIL FROM:<>"), "250 ok|250 sender|");
    }

    private static void sender() {
        String[] good = {"<>", "<a@b>", "<a@b> SIZE=1", "<> BODY=8BITMIME", "<> size=200 body=8bitmime",
            "<> BODY=8bitMIME SIZE=0 SIZE=000000200 BODY=8BITMIME", "<a@HERE>"};
        for (String rest : good) {
            Talk talk = Talk.greeted();
            due("MAIL FROM:" + rest, talk.ask("MAIL FROM:" + rest), "250 sender|");
            due("a second sender", talk.ask("MAIL FROM:" + rest), "503 order|");
        }
        due("words without case", Talk.greeted().ask("mAiL fRoM:<A@b>"), "250 sender|");
        String[] bad = {"", "<", ">", "< >", "a@b", "<a@b", "a@b>", " <>", "<> ", "<>x", "<a@b>x", "<a@b>  SIZE=1",
            "<> X", "<> SIZE", "<> SIZE=", "<> SIZE=x", "<> SIZE=1x", "<> SIZE=-1", "<> SIZE=1234567890",
            "<> SIZE=0000000001", "<> BODY=", "<> BODY=7BIT", "<> BODY=8BITMIMEX", "<> BODY=8BITMIM",
            "<> SIZE=1SIZE=2", "<> SIZE=1 ", "<> SIZE=201 X", "<> SIZE=1,BODY=8BITMIME", "<>SIZE=1", "<<>>"};
        for (String rest : bad) {
            Talk talk = Talk.greeted();
            due("MAIL FROM:" + rest, talk.ask("MAIL FROM:" + rest), "501 syntax|");
            due("no sender by it", talk.ask("MAIL FROM:<>"), "250 sender|");
            due("syntax ahead of order", talk.ask("MAIL FROM:" + rest), "501 syntax|");
        }
        for (String line : new String[] {"MAIL  FROM:<>", "MAIL FROM <>", "MAIL FROM", "MAIL TO:<>", "MAIL <>"}) {
            due(line, Talk.greeted().ask(line), "501 syntax|");
        }
    }

    private static void sizes() {
        due("SIZE 200", Talk.greeted().ask("MAIL FROM:<> SIZE=200"), "250 sender|");
        due("SIZE 201", Talk.greeted().ask("MAIL FROM:<> SIZE=201"), "552 big|");
        due("SIZE of 9 digits", Talk.greeted().ask("MAIL FROM:<> SIZE=999999999"), "552 big|");
        due("one SIZE of many", Talk.greeted().ask("MAIL FROM:<> SIZE=1 SIZE=201 SIZE=2"), "552 big|");
        due("no sender by it", Talk.greeted().ask("MAIL FROM:<> SIZE=201", "RCPT TO:<a@here>", "MAIL FROM:<>"),
            "552 big|503 order|250 sender|");
        due("order ahead of big", Talk.greeted().ask("MAIL FROM:<>", "MAIL FROM:<> SIZE=201"),
            "250 sender|503 order|");
    }

    private static void recipients() {
        due("no sender", Talk.greeted().ask("RCPT TO:<a@here>"), "503 order|");
        due("no sender, not here", Talk.greeted().ask("RCPT TO:<a@there>"), "503 order|");
        due("no sender, syntax", Talk.greeted().ask("RCPT TO:<a@here"), "501 syntax|");
        for (String path : new String[] {"<a@here>", "<a@HeRe>", "<12345678@here>", "<a.b.c.de@here>", "<!~@here>"}) {
            Talk talk = Talk.greeted();
            talk.ask("MAIL FROM:<>");
            due("RCPT TO:" + path, talk.ask("rcpt to:" + path), "250 recipient|");
            due("recipients", talk.mail.count(3), 1);
        }
        for (String path : new String[] {"<a@her>", "<a@heree>", "<a@here.x>", "<a@x.here>", "<123456789@here>", "<a@-here>",
            "<" + Talk.times(40, 'a') + "@here>", "<a@there>"}) {
            Talk talk = Talk.greeted();
            talk.ask("MAIL FROM:<>");
            due("RCPT TO:" + path, talk.ask("RCPT TO:" + path), "550 none|");
            due("recipients", talk.mail.count(3), 0);
        }
        for (String rest : new String[] {" TO:<>", " TO:<a@here> ", " TO:<a@here>x", " TO: <a@here>", " TO:a@here", " TO:",
            " FROM:<a@here>", "  TO:<a@here>", " TO:<a@here> SIZE=1", " TO:<" + Talk.times(41, 'a') + "@here>"}) {
            due("RCPT" + rest, Talk.addressed().ask("RCPT" + rest), "501 syntax|");
        }
        Talk talk = Talk.addressed();
        due("four in all", talk.ask("RCPT TO:<b@here>", "RCPT TO:<b@here>", "RCPT TO:<d@here>"),
            "250 recipient|250 recipient|250 recipient|");
        due("behind four", talk.ask("RCPT TO:<e@here>", "RCPT TO:<ann@here>", "RCPT TO:<e@there>", "RCPT TO:<e>"),
            "452 many|452 many|550 none|501 syntax|");
        due("recipients", talk.mail.count(3), 4);
    }

    private static void paths() {
        String marks = "!#$%&'*+-/=?^_`{|}~";
        String l40 = Talk.times(20, 'a') + "." + Talk.times(19, 'b');
        String d60 = Talk.times(30, 'a') + "." + Talk.times(29, '-');
        String[] good = {marks + "@b", "AZaz09@AZaz09-", "a.b@c.d", "-@-", l40 + "@b", "a@" + d60, "a.b.c@d.e.f"};
        for (String address : good) {
            due("<" + address + ">", Talk.greeted().ask("MAIL FROM:<" + address + ">"), "250 sender|");
        }
        String[] bad = {"@", "a@", "@b", "a", ".a@b", "a.@b", "a..b@c", "a@.b", "a@b.", "a@b..c", "a@b@c", "a b@c", "a@b c",
            "a@b_c", "<a@b>", "a<b@c", "a>b@c", "a@b>", "a,b@c", "\"a\"@b", "a@[b]", "(a)@b", "a:b@c", "a;b@c", "a\\b@c",
            "\u00e4@b", "a@\u00e4", "a\0@b", "a@b\0", l40 + "c@b", "a@" + d60 + "c", "a\r@b", "a\n@b", ".", ".@.", "a\u007f@b"};
        for (String address : bad) {
            due("<" + address + ">", Talk.greeted().ask("MAIL FROM:<" + address + ">"), "501 syntax|");
        }
        for (int b = 0; b < 256; b++) {
            char c = (char) b;
            boolean plain = b < 128 && Character.isLetterOrDigit(c);
            boolean local = plain || b != 0 && marks.indexOf(c) >= 0 || c == '.';
            boolean domain = plain || c == '-' || c == '.';
            due("byte " + b + " of a local part", Talk.greeted().ask("MAIL FROM:<a" + c + "a@b>"),
                local ? "250 sender|" : "501 syntax|");
            due("byte " + b + " of a domain", Talk.greeted().ask("MAIL FROM:<a@b" + c + "b>"),
                domain ? "250 sender|" : "501 syntax|");
        }
    }

    private static void resetAndQuit() {
        due("RSET forgets", Talk.addressed().ask("RSET", "DATA", "RCPT TO:<a@here>", "MAIL FROM:<>", "DATA"),
            "250 ok|503 order|503 order|250 sender|503 order|");
        due("RSET with more forgets nothing", Talk.addressed().ask("RSET x", "DATA", "."),
            "501 syntax|354 go|250 <ann@here>|");
        due("NOOP forgets nothing", Talk.addressed().ask("NOOP", "DATA", "."), "250 ok|354 go|250 <ann@here>|");

        Talk talk = Talk.addressed();
        due("the call with QUIT is taken", talk.say("QUIT\r\nNO"), true);
        due("behind QUIT", talk.say("OP\r\n"), false);
        due("answers of QUIT", talk.heard(), "221 bye|");
        due("no session", talk.mail.count(1), 0);
        due("bytes behind QUIT are passed over", talk.mail.count(4), 0);
        talk.mail.open();
        due("passed over for good", talk.ask("NOOP"), "250 ok|");
        due("QUIT with more", new Talk().ask("QUIT x", "quit"), "501 syntax|221 bye|");
    }

    private static void data() {
        due("DATA without a recipient", Talk.greeted().ask("DATA", "MAIL FROM:<>", "DATA", "data x"),
            "503 order|250 sender|503 order|501 syntax|");
        Talk talk = Talk.greeted();
        talk.ask("MAIL FROM:<>", "RCPT TO:<B.b@HERE>", "RCPT TO:<a@here>", "RCPT TO:<B.b@HERE>");
        due("DATA", talk.ask("dAtA"), "354 go|");
        due("lines of a message are no commands", talk.ask("QUIT", "RSET", "", Talk.times(101, 'x')), "");
        due("an answer a recipient, as told", talk.ask("."), "250 <B.b@HERE>|250 <a@here>|250 <B.b@HERE>|");
        due("handed over once", talk.mail.count(0), 1);
        due("all is forgotten", talk.ask("DATA", "RCPT TO:<a@here>", "MAIL FROM:<>"),
            "503 order|503 order|250 sender|");
        due("all lines", talk.part(0, 0, talk.mail.message(0, 0)), "QUIT\r\nRSET\r\n\r\n" + Talk.times(101, 'x') + "\r\n");
    }

    private static void dots() {
        String[][] runs = {
            {".\r\n", ""},
            {"\r\n.\r\n", "\r\n"},
            {"a\r\n.\r\n", "a\r\n"},
            {".a\r\n.\r\n", "a\r\n"},
            {"..\r\n.\r\n", ".\r\n"},
            {"...\r\n..a.\r\n.\r\n", "..\r\n.a.\r\n"},
            {"a.\r\n.\r\n", "a.\r\n"},
            {". \r\n.\r\n", " \r\n"},
            {".\r\r\n.\r\n", "\r\r\n"},
            {".\n\r\n.\r\n", "\n\r\n"},
            {".\rx\r\n.\r\n", "\rx\r\n"},
            {"\r.\r\n.\r\n", "\r.\r\n"},
            {"a\r.\r\n.\r\n", "a\r.\r\n"},
            {"a\n.\r\n.\r\n", "a\n.\r\n"},
            {"\n.\n\r\n.\r\n", "\n.\n\r\n"},
            {"\r\r\n.\r\n", "\r\r\n"},
            {"\0\u00ff\u0080\r\n.\r\n", "\0\u00ff\u0080\r\n"},
        };
        for (String[] run : runs) {
            Talk talk = Talk.addressed();
            talk.ask("DATA");
            talk.say(run[0]);
            String name = run[0].replace("\r", "\\r").replace("\n", "\\n");
            due("message " + name, talk.heard(), "250 <ann@here>|");
            due("bytes of " + name, talk.mail.message(0, 0), run[1].length());
            due("text of " + name, talk.part(0, 0, run[1].length()), run[1]);
        }
    }

    private static void bigAndFull() {
        for (int length : new int[] {199, 200, 201, 202, 203, 204, 300}) {
            for (String dot : new String[] {"", "."}) {
                Talk talk = Talk.addressed();
                talk.ask("RCPT TO:<b@here>", "DATA");
                talk.lines(dot + Talk.times(length - 2, 'z'), ".");
                String want = length > 200 ? "552 big|552 big|" : "250 <ann@here>|250 <b@here>|";
                due(length + " bytes", talk.heard(), want);
                due("messages", talk.mail.count(0), length > 200 ? 0 : 1);
                due("lines are commands again", talk.ask("DATA", "MAIL FROM:<>"), "503 order|250 sender|");
            }
        }
        Talk talk = Talk.greeted();
        for (int k = 0; k < 10; k++) {
            due("message " + k, talk.ask("MAIL FROM:<>", "RCPT TO:<a@here>", "DATA", "m" + k, "."),
                "250 sender|250 recipient|354 go|250 <a@here>|");
        }
        due("ten messages", talk.mail.count(0), 10);
        due("full", talk.ask("MAIL FROM:<>", "RCPT TO:<a@here>", "RCPT TO:<b@here>", "DATA", "x", "."),
            "250 sender|250 recipient|250 recipient|354 go|452 full|452 full|");
        due("big ahead of full", talk.ask("MAIL FROM:<>", "RCPT TO:<a@here>", "DATA", Talk.times(199, 'x'), "."),
            "250 sender|250 recipient|354 go|552 big|");
        due("still ten", talk.mail.count(0), 10);
        due("the tenth stays", talk.part(9, 0, 4), "m9\r\n");
    }
}
