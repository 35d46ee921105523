/** "Terms": a path's local part of 1 .. 40 and its domain of 1 .. 60, their bytes and their dots; LHLO's domain. */
public final class Edge2PathTest {
    private static final String SYNTAX = "501 syntax|";
    private static final String LOCAL_MARKS = "!#$%&'*+-/=?^_`{|}~.";
    private static final String DOMAIN_MARKS = "-.";

    public static void main(String[] args) {
        shortestLocal();
        longestLocal();
        longestLocalHere();
        shortestDomain();
        longestDomain();
        dotsOfALocal();
        dotsOfADomain();
        everyByteOfALocal();
        everyByteOfADomain();
        hereAlone();
        signsOfAPath();
        everyByteForASign();
        wordsAheadOfAPath();
        Talk.finish();
    }

    private static String letters(int n) {
        return Talk.times(n, 'q');
    }

    /** Names of n bytes: letters alone, with a dot, and with as many dots as there may be. */
    private static String[] names(int n) {
        String dotted = n < 3 ? letters(n) : letters(n / 2) + "." + letters(n - 1 - n / 2);
        String mostDots = "q.".repeat(n / 2) + "q";
        mostDots = n % 2 == 1 ? mostDots : n == 0 ? "" : "q" + mostDots.substring(0, n - 1);
        return new String[] {letters(n), dotted, mostDots};
    }

    private static void sender(String address, boolean good) {
        Talk talk = Talk.greeted();
        Talk.due("MAIL FROM:<" + address + ">", talk.ask("MAIL FROM:<" + address + ">"), good ? "250 sender|" : SYNTAX);
        if (good) {
            Talk.due("recipient of it", talk.ask("RCPT TO:<a@here>", "DATA", "."), "250 recipient|354 go|250 <a@here>|");
            Talk.due("bytes of " + address, talk.mail.message(0, 2), address.length());
            Talk.due("the address as told", talk.part(0, 1, address.length()), address);
        }
    }

    private static void recipient(String address, String want) {
        Talk talk = Talk.greeted();
        talk.ask("MAIL FROM:<>");
        Talk.due("RCPT TO:<" + address + ">", talk.ask("RCPT TO:<" + address + ">"), want);
        boolean good = want.equals("250 recipient|");
        Talk.due("recipients by " + address, talk.mail.count(3), good ? 1 : 0);
        if (good) {
            Talk.due("the path as told", talk.ask("DATA", "."), "354 go|250 <" + address + ">|");
            Talk.due("bytes of " + address, talk.mail.message(0, 3), address.length());
            Talk.due("the address as told", talk.part(0, 2, address.length()), address);
        }
    }

    private static void greeting(String domain, boolean good) {
        Talk talk = new Talk();
        Talk.due("LHLO " + domain, talk.ask("LHLO " + domain), good ? "250 here|" : SYNTAX);
        Talk.due("LHLO by " + domain, talk.ask("MAIL FROM:<>"), good ? "250 sender|" : "503 order|");
    }

    private static void shortestLocal() {
        sender("@b", false);
        sender("a@b", true);
        sender("ab@b", true);
        recipient("@here", SYNTAX);
        recipient("a@here", "250 recipient|");
        recipient("ab@here", "250 recipient|");
    }

    private static void longestLocal() {
        for (int n = 39; n <= 42; n++) {
            for (String name : names(n)) {
                Talk.due("bytes of the name", name.length(), n);
                sender(name + "@b", n <= 40);
                recipient(name + "@b", n <= 40 ? "550 none|" : SYNTAX);
                recipient(name + "@here", n <= 40 ? "550 none|" : SYNTAX);
            }
        }
    }

    private static void longestLocalHere() {
        for (int n = 7; n <= 10; n++) {
            for (String name : names(n)) {
                Talk.due("bytes of the name", name.length(), n);
                recipient(name + "@here", n <= 8 ? "250 recipient|" : "550 none|");
                recipient(name + "@HERE", n <= 8 ? "250 recipient|" : "550 none|");
                recipient(name + "@away", "550 none|");
                sender(name + "@here", true);
            }
        }
    }

    private static void shortestDomain() {
        sender("a@", false);
        sender("a@b", true);
        sender("a@bc", true);
        recipient("a@", SYNTAX);
        recipient("a@b", "550 none|");
        greeting("", false);
        greeting("a", true);
        greeting("ab", true);
        Talk.due("LHLO alone", new Talk().ask("LHLO", "MAIL FROM:<>"), "501 syntax|503 order|");
    }

    private static void longestDomain() {
        for (int n = 59; n <= 62; n++) {
            for (String name : names(n)) {
                Talk.due("bytes of the name", name.length(), n);
                sender("a@" + name, n <= 60);
                recipient("a@" + name, n <= 60 ? "550 none|" : SYNTAX);
                greeting(name, n <= 60);
            }
        }
        // A local part has its own bound, and a domain of 41 is none of it.
        sender(letters(26) + "@" + letters(60), true);
        sender(letters(40) + "@" + letters(46), true);
        sender(letters(26) + "@" + letters(61), false);
        sender(letters(41) + "@" + letters(46), false);
        greeting(letters(41), true);
    }

    private static void dotsOfALocal() {
        for (String name : new String[] {".", "..", ".a", "a.", "a..b", "a...b", ".a.b", "a.b.", "a.b..c", "..a", "a.."}) {
            sender(name + "@b", false);
            recipient(name + "@here", SYNTAX);
        }
        for (String name : new String[] {"a.b", "a.b.c", "1.2", "-.-", "a.b.c.d"}) {
            sender(name + "@b", true);
            recipient(name + "@here", "250 recipient|");
        }
        recipient("a.b.c.d.e@here", "550 none|");
    }

    private static void dotsOfADomain() {
        for (String name : new String[] {".", "..", ".a", "a.", "a..b", "a...b", ".a.b", "a.b.", "a.b..c", "..a", "a.."}) {
            sender("a@" + name, false);
            recipient("a@" + name, SYNTAX);
            greeting(name, false);
        }
        for (String name : new String[] {"a.b", "a.b.c", "1.2", "-.-", "a.b.c.d"}) {
            sender("a@" + name, true);
            recipient("a@" + name, "550 none|");
            greeting(name, true);
        }
        recipient("a@.here", SYNTAX);
        recipient("a@here.", SYNTAX);
    }

    private static boolean letterOrDigit(int b) {
        return b >= 'A' && b <= 'Z' || b >= 'a' && b <= 'z' || b >= '0' && b <= '9';
    }

    private static void everyByteOfALocal() {
        for (int b = 0; b < 256; b++) {
            char c = (char) b;
            boolean good = letterOrDigit(b) || LOCAL_MARKS.indexOf(c) >= 0;
            sender("a" + c + "b@c", good);
            recipient("a" + c + "b@here", good ? "250 recipient|" : SYNTAX);
            sender(c + "@c", good && c != '.');
            sender(c + "b@c", good && c != '.');
            sender("a" + c + "@c", good && c != '.');
        }
    }

    private static void everyByteOfADomain() {
        for (int b = 0; b < 256; b++) {
            char c = (char) b;
            boolean good = letterOrDigit(b) || DOMAIN_MARKS.indexOf(c) >= 0;
            sender("a@b" + c + "c", good);
            sender("a@" + c, good && c != '.');
            sender("a@b" + c, good && c != '.');
            greeting("b" + c + "c", good);
            greeting("" + c, good && c != '.');
            greeting("b" + c, good && c != '.');
        }
    }

    private static void hereAlone() {
        for (String domain : new String[] {"here", "HERE", "Here", "hErE"}) {
            recipient("a@" + domain, "250 recipient|");
        }
        for (String domain : new String[] {"her", "heres", "xhere", "ere", "here.here", "here.x", "x.here", "here-",
            "-here", "h", "hero", "there", "h-re"}) {
            recipient("a@" + domain, "550 none|");
        }
        Talk talk = Talk.greeted();
        talk.ask("MAIL FROM:<>", "RCPT TO:<Ann.X@HeRe>", "RCPT TO:<ann.x@here>");
        Talk.due("a path in its own case", talk.ask("DATA", "."), "354 go|250 <Ann.X@HeRe>|250 <ann.x@here>|");
    }

    private static void signsOfAPath() {
        for (String path : new String[] {"", "<", ">", "<>", "<a>", "<a@here", "a@here>", "a@here", "<a@here>>",
            "<<a@here>", "<a@here> ", " <a@here>", "< a@here>", "<a @here>", "<a@ here>", "<a@here >", "<a@here>x",
            "<a@@here>", "<a@b@here>", "<@a@here>", "<@x:a@here>", "(a@here)", "<\"a\"@here>", "<a@[here]>",
            "<a@here><b@here>", "<a@here>,<b@here>", "<a@here> SIZE=1", "<a@here> BODY=8BITMIME", "<a@here\0>",
            "<a@here>\0", "<a@here>\r", "<a@here>\n", "\0<a@here>"}) {
            Talk talk = Talk.greeted();
            talk.ask("MAIL FROM:<>");
            Talk.due("RCPT TO:" + path, talk.ask("RCPT TO:" + path), SYNTAX);
            Talk.due("recipients by " + path, talk.mail.count(3), 0);
        }
    }

    private static void everyByteForASign() {
        for (int b = 0; b < 256; b++) {
            char c = (char) b;
            sign(c + "a@here>", b == '<');
            sign("<a" + c + "here>", b == '@');
            sign("<a@here" + c, b == '>');
        }
    }

    private static void sign(String path, boolean good) {
        Talk.due("MAIL FROM:" + path, Talk.greeted().ask("MAIL FROM:" + path), good ? "250 sender|" : SYNTAX);
        Talk.due("RCPT TO:" + path, Talk.addressed().ask("RCPT TO:" + path), good ? "250 recipient|" : SYNTAX);
    }

    private static void wordsAheadOfAPath() {
        for (String word : new String[] {"RCPT TO:", "rcpt to:", "RcPt tO:"}) {
            Talk.due(word, Talk.addressed().ask(word + "<a@here>"), "250 recipient|");
        }
        for (String word : new String[] {"RCPT TO", "RCPT TO;", "RCPT TO :", "RCPT TO: ", "RCPT  TO:", "RCPT T:",
            "RCPT TOO:", "RCPT FROM:", "RCPT ", "RCPT :", "RCPT TO\u001a"}) {
            Talk.due(word, Talk.addressed().ask(word + "<a@here>"), SYNTAX);
        }
        for (String word : new String[] {"MAIL FROM:", "mail from:", "MaIl fRoM:"}) {
            Talk.due(word, Talk.greeted().ask(word + "<a@here>"), "250 sender|");
        }
        for (String word : new String[] {"MAIL FROM", "MAIL FROM;", "MAIL FROM :", "MAIL FROM: ", "MAIL  FROM:",
            "MAIL ROM:", "MAIL FROMM:", "MAIL TO:", "MAIL ", "MAIL :", "MAIL FROM\u001a"}) {
            Talk.due(word, Talk.greeted().ask(word + "<a@here>"), SYNTAX);
        }
    }
}
