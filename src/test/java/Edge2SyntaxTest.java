/** "Terms": 500 unknown if the first word is none of the seven; 501 syntax if what stands there is not just so. */
public final class Edge2SyntaxTest {
    private static final String[] WORDS = {"LHLO", "MAIL", "RCPT", "DATA", "RSET", "NOOP", "QUIT"};

    public static void main(String[] args) {
        wordsOfOtherLengths();
        everyByteBehindAWord();
        everyByteWithinAWord();
        blankAheadOfAWord();
        wordsThatStandAlone();
        lhloIsJustSo();
        Talk.finish();
    }

    /** What a line is answered where a recipient is told, and that it changes nothing. */
    private static void tellsNothing(String line, String want) {
        Talk talk = Talk.addressed();
        String shown = talk.shown();
        Talk.due("'" + line + "'", talk.ask(line), want);
        Talk.due("what is shown behind '" + line + "'", talk.shown(), shown);
    }

    private static void wordsOfOtherLengths() {
        for (String word : WORDS) {
            for (int length = 0; length < 4; length++) {
                tellsNothing(word.substring(0, length), "500 unknown|");
                tellsNothing(word.substring(0, length) + " " + word.substring(length), "500 unknown|");
            }
            tellsNothing(word + "S", "500 unknown|");
            tellsNothing(word + word, "500 unknown|");
            tellsNothing(word.substring(1), "500 unknown|");
            tellsNothing("X" + word, "500 unknown|");
        }
        for (String word : new String[] {"HELO x", "EHLO x", "VRFY a", "HELP", "MAILFROM:<>", "RCPTTO:<a@here>"}) {
            tellsNothing(word, "500 unknown|");
        }
    }

    private static void everyByteBehindAWord() {
        for (String word : WORDS) {
            for (int b = 0; b < 256; b++) {
                tellsNothing(word + (char) b, b == ' ' ? "501 syntax|" : "500 unknown|");
            }
        }
    }

    private static void everyByteWithinAWord() {
        for (String word : WORDS) {
            for (int place = 0; place < 4; place++) {
                for (int b = 0; b < 256; b++) {
                    String line = word.substring(0, place) + (char) b + word.substring(place + 1);
                    boolean same = b == word.charAt(place) || b == word.charAt(place) + 32;
                    // A blank behind a word of the seven is syntax, whatever it is.
                    tellsNothing(line + " ", same ? "501 syntax|" : "500 unknown|");
                }
            }
        }
    }

    private static void blankAheadOfAWord() {
        for (String word : WORDS) {
            tellsNothing(" " + word, "500 unknown|");
            tellsNothing("\t" + word, "500 unknown|");
            tellsNothing("\0" + word, "500 unknown|");
        }
        tellsNothing(" ", "500 unknown|");
        tellsNothing("  NOOP", "500 unknown|");
    }

    private static void wordsThatStandAlone() {
        for (String word : new String[] {"DATA", "RSET", "NOOP", "QUIT"}) {
            for (String more : new String[] {" ", "  ", " x", " " + word, " \0", " \r", " \t"}) {
                tellsNothing(word + more, "501 syntax|");
            }
        }
        tellsNothing("noop", "250 ok|");
        Talk.due("rset", Talk.addressed().ask("rset", "data"), "250 ok|503 order|");
        Talk.due("data", Talk.addressed().ask("data", "."), "354 go|250 <ann@here>|");
        Talk.due("quit", Talk.addressed().ask("quit"), "221 bye|");
    }

    private static void lhloIsJustSo() {
        for (String rest : new String[] {"", " ", "  x", " x ", " x y", " x\r", " x\0", " x\t", " <x>", " x@y", " [x]"}) {
            tellsNothing("LHLO" + rest, "501 syntax|");
        }
        Talk.due("lhlo", new Talk().ask("lhlo X.y"), "250 here|");
    }
}
