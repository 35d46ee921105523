/** "Terms": a line ends with CRLF; one of more than 100 bytes (without CRLF) is answered 500 too long. */
public final class Edge2LineTest {
    private static final String TOO_LONG = "500 too long|";

    public static void main(String[] args) {
        longestLine();
        longestLineOfEachCommand();
        longestSenderLine();
        longestRecipientLine();
        tooLongAheadOfLhlo();
        farTooLong();
        emptyLine();
        lineEnds();
        lineEndsHalfway();
        messageLinesMayBeLonger();
        Talk.finish();
    }

    private static String filled(String told, int length) {
        return told + Talk.times(length - told.length(), 'x');
    }

    private static void longestLine() {
        Talk talk = new Talk();
        Talk.due("99 bytes", talk.ask(filled("", 99)), "500 unknown|");
        Talk.due("100 bytes", talk.ask(filled("", 100)), "500 unknown|");
        Talk.due("101 bytes", talk.ask(filled("", 101)), TOO_LONG);
        Talk.due("102 bytes", talk.ask(filled("", 102)), TOO_LONG);
        Talk.due("99 bytes and a CR", talk.ask(filled("", 99) + "\r"), "500 unknown|");
        Talk.due("100 bytes and a CR", talk.ask(filled("", 100) + "\r"), TOO_LONG);
        Talk.due("99 bytes and a LF", talk.ask(filled("", 99) + "\n"), "500 unknown|");
        Talk.due("100 bytes and a LF", talk.ask(filled("", 100) + "\n"), TOO_LONG);
    }

    private static void longestLineOfEachCommand() {
        for (String word : new String[] {"LHLO ", "MAIL ", "RCPT ", "DATA ", "RSET ", "NOOP ", "QUIT "}) {
            Talk talk = Talk.addressed();
            Talk.due(word + "of 99 bytes", talk.ask(filled(word, 99)), "501 syntax|");
            Talk.due(word + "of 100 bytes", talk.ask(filled(word, 100)), "501 syntax|");
            Talk.due(word + "of 101 bytes", talk.ask(filled(word, 101)), TOO_LONG);
            Talk.due(word + "changed nothing", talk.shown(), Talk.addressed().shown());
        }
    }

    private static void longestSenderLine() {
        for (int length = 99; length <= 101; length++) {
            String path = "<" + Talk.times(40, 'a') + "@" + Talk.times(length - 53, 'b') + ">";
            senderLine("MAIL FROM:" + path, length);
            String sizes = "<>" + " SIZE=0".repeat(12);
            senderLine("MAIL FROM:" + sizes + Talk.times(length - 96, '0'), length);
        }
    }

    private static void senderLine(String line, int length) {
        Talk.due("bytes of the line", line.length(), length);
        Talk talk = Talk.greeted();
        Talk.due(line, talk.ask(line), length > 100 ? TOO_LONG : "250 sender|");
        Talk.due("a sender by it", talk.ask("RCPT TO:<a@here>"), length > 100 ? "503 order|" : "250 recipient|");
    }

    private static void longestRecipientLine() {
        for (int length = 99; length <= 101; length++) {
            String line = "RCPT TO:<" + Talk.times(40, 'a') + "@" + Talk.times(length - 51, 'b') + ">";
            Talk.due("bytes of the line", line.length(), length);
            Talk.due("RCPT of " + length + " bytes", Talk.addressed().ask(line),
                length > 100 ? TOO_LONG : "550 none|");
        }
    }

    private static void tooLongAheadOfLhlo() {
        for (String word : new String[] {"MAIL ", "RCPT ", "DATA "}) {
            Talk.due(word + "of 100 bytes ahead of LHLO", new Talk().ask(filled(word, 100)), "503 order|");
            Talk.due(word + "of 101 bytes ahead of LHLO", new Talk().ask(filled(word, 101)), TOO_LONG);
        }
    }

    private static void farTooLong() {
        for (int length : new int[] {200, 201, 202, 203, 204, 255, 256, 257, 356, 1000}) {
            Talk talk = new Talk();
            Talk.due(length + " bytes", talk.ask(filled("NOOP", length)), TOO_LONG);
            Talk.due("the line behind it", talk.ask("NOOP"), "250 ok|");
        }
    }

    private static void emptyLine() {
        Talk talk = Talk.addressed();
        Talk.due("an empty line", talk.ask(""), "500 unknown|");
        Talk.due("empty lines", talk.ask("", "", ""), "500 unknown|500 unknown|500 unknown|");
        Talk.due("a blank alone", talk.ask(" "), "500 unknown|");
        Talk.due("nothing by it", talk.shown(), Talk.addressed().shown());
    }

    private static void lineEnds() {
        Talk talk = new Talk();
        Talk.due("CR alone", talk.ask("NOOP\rNOOP"), "500 unknown|");
        Talk.due("LF alone", talk.ask("NOOP\nNOOP"), "500 unknown|");
        Talk.due("LF CR", talk.ask("NOOP\n\rNOOP"), "500 unknown|");
        Talk.due("CR CR LF", talk.ask("NOOP\r"), "500 unknown|");
        Talk.due("LF CR LF", talk.ask("NOOP\n"), "500 unknown|");
        Talk.due("CR LF LF", talk.ask("NOOP", "\nNOOP"), "250 ok|500 unknown|");
        Talk.due("CR x LF", talk.ask("NOOP\rx\n"), "500 unknown|");
        Talk.due("CR of the line before", talk.ask("\r", "\n"), "500 unknown|500 unknown|");
        Talk.due("bytes like CR and LF but for the eighth bit", talk.ask("NOOP\u008d\u008a"), "500 unknown|");
    }

    private static void lineEndsHalfway() {
        String told = "NOOP\r\nNOOP\r\n";
        for (int cut = 1; cut < told.length(); cut++) {
            Talk talk = new Talk();
            talk.say(told.substring(0, cut));
            Talk.due("behind " + cut + " bytes", talk.heard(), cut < 6 ? "" : "250 ok|");
            talk.say(told.substring(cut));
            Talk.due("from byte " + cut + " on", talk.heard(), cut < 6 ? "250 ok|250 ok|" : "250 ok|");
        }
    }

    private static void messageLinesMayBeLonger() {
        for (int length : new int[] {99, 100, 101, 198}) {
            Talk talk = Talk.addressed();
            Talk.due("a message's line of " + length, talk.ask("DATA", filled("", length), "."), "354 go|250 <ann@here>|");
            Talk.due("bytes of it", talk.mail.message(0, 0), length + 2);
        }
    }
}
