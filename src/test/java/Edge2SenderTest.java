/** "Terms": MAIL FROM:, a path or <>, then any number of SIZE= with 1 .. 9 digits and BODY=8BITMIME. */
public final class Edge2SenderTest {
    private static final String TAKEN = "250 sender|";
    private static final String SYNTAX = "501 syntax|";
    private static final String BIG = "552 big|";

    public static void main(String[] args) {
        fewestDigits();
        mostDigits();
        whatIsADigit();
        largestSize();
        oneSizeOfMany();
        numberOfParameters();
        blanks();
        wordsWithoutCase();
        noSender();
        bigTellsNoSender();
        syntaxOrderBig();
        Talk.finish();
    }

    /** MAIL FROM: behind LHLO, with a path and with <>, and whether a sender is told by it. */
    private static void sender(String parameters, String want) {
        for (String path : new String[] {"<>", "<joe@far.net>"}) {
            Talk talk = Talk.greeted();
            String line = "MAIL FROM:" + path + parameters;
            Talk.due(line, talk.ask(line), want);
            Talk.due("a sender by " + line, talk.ask("RCPT TO:<a@here>"),
                want.equals(TAKEN) ? "250 recipient|" : "503 order|");
        }
    }

    private static void fewestDigits() {
        sender(" SIZE=", SYNTAX);
        sender(" SIZE", SYNTAX);
        sender(" SIZE=0", TAKEN);
        sender(" SIZE=9", TAKEN);
        sender(" SIZE=10", TAKEN);
        sender(" SIZE= BODY=8BITMIME", SYNTAX);
        sender(" SIZE= SIZE=1", SYNTAX);
    }

    private static void mostDigits() {
        sender(" SIZE=00000001", TAKEN);
        sender(" SIZE=000000001", TAKEN);
        sender(" SIZE=0000000001", SYNTAX);
        sender(" SIZE=000000200", TAKEN);
        sender(" SIZE=000000201", BIG);
        sender(" SIZE=99999999", BIG);
        sender(" SIZE=999999999", BIG);
        sender(" SIZE=9999999999", SYNTAX);
        // 2^32 and 2^32 + 1 would be 0 and 1 in an int.
        sender(" SIZE=4294967296", SYNTAX);
        sender(" SIZE=4294967297", SYNTAX);
        sender(" SIZE=" + Talk.times(40, '0'), SYNTAX);
        sender(" SIZE=000000001 SIZE=0000000001", SYNTAX);
    }

    private static void whatIsADigit() {
        for (int b = 0; b < 256; b++) {
            char c = (char) b;
            boolean digit = c >= '0' && c <= '9';
            sender(" SIZE=1" + c, digit ? TAKEN : SYNTAX);
            sender(" SIZE=" + c + "1", digit ? TAKEN : SYNTAX);
        }
    }

    private static void largestSize() {
        sender(" SIZE=199", TAKEN);
        sender(" SIZE=200", TAKEN);
        sender(" SIZE=201", BIG);
        sender(" SIZE=202", BIG);
        sender(" SIZE=256", BIG);
        sender(" SIZE=1000", BIG);
    }

    private static void oneSizeOfMany() {
        sender(" SIZE=200 SIZE=200", TAKEN);
        sender(" SIZE=201 SIZE=200", BIG);
        sender(" SIZE=200 SIZE=201", BIG);
        sender(" SIZE=0 SIZE=201 BODY=8BITMIME SIZE=0", BIG);
        sender(" SIZE=100 SIZE=101", TAKEN);
    }

    private static void numberOfParameters() {
        sender("", TAKEN);
        for (int n = 1; n <= 5; n++) {
            sender(" BODY=8BITMIME".repeat(n), TAKEN);
        }
        for (int n = 1; n <= 11; n++) {
            sender(" SIZE=1".repeat(n), TAKEN);
            sender(" SIZE=1".repeat(n - 1) + " SIZE=", SYNTAX);
        }
        sender(" BODY=8BITMIME SIZE=1 BODY=8BITMIME SIZE=2", TAKEN);
    }

    private static void blanks() {
        sender(" ", SYNTAX);
        sender("  SIZE=1", SYNTAX);
        sender("SIZE=1", SYNTAX);
        sender("\tSIZE=1", SYNTAX);
        sender(" SIZE=1 ", SYNTAX);
        sender(" SIZE=1  SIZE=1", SYNTAX);
        sender(" SIZE=1SIZE=1", SYNTAX);
        sender(" SIZE =1", SYNTAX);
        sender(" SIZE= 1", SYNTAX);
        sender(" BODY=8BITMIME ", SYNTAX);
        sender(" BODY=8BITMIMEBODY=8BITMIME", SYNTAX);
        sender("BODY=8BITMIME", SYNTAX);
        sender(" SIZE=1BODY=8BITMIME", SYNTAX);
    }

    private static void wordsWithoutCase() {
        sender(" size=1 body=8bitmime", TAKEN);
        sender(" SiZe=1 bOdY=8BitMime", TAKEN);
        sender(" size=201", BIG);
        sender(" BODY=8BITMIM", SYNTAX);
        sender(" BODY=8BITMIMES", SYNTAX);
        sender(" BODY=7BITMIME", SYNTAX);
        sender(" BODY=7BIT", SYNTAX);
        sender(" BODY=", SYNTAX);
        sender(" BODY", SYNTAX);
        sender(" SIZ=1", SYNTAX);
        sender(" SIZES=1", SYNTAX);
        sender(" AUTH=<>", SYNTAX);
        // '=' and 0x1d are 32 apart, as are letters of the two cases.
        sender(" SIZE\u001d1", SYNTAX);
        sender(" BODY=\u00188BITMIME", SYNTAX);
    }

    private static void noSender() {
        Talk talk = Talk.greeted();
        Talk.due("<>", talk.ask("MAIL FROM:<>"), TAKEN);
        Talk.due("<> is a sender", talk.ask("MAIL FROM:<>", "MAIL FROM:<a@b>"), "503 order|503 order|");
        Talk.due("<> is a sender", talk.ask("RCPT TO:<a@here>", "DATA", "."), "250 recipient|354 go|250 <a@here>|");
        for (String rest : new String[] {"", "<", ">", "<<>>", "< >", "<>>", "<@>", "()", "><", " <>", "<a@b", "a@b>",
            "a@b"}) {
            Talk.due("MAIL FROM:" + rest, Talk.greeted().ask("MAIL FROM:" + rest), SYNTAX);
        }
    }

    private static void bigTellsNoSender() {
        Talk talk = Talk.greeted();
        Talk.due("big", talk.ask("MAIL FROM:<a@b> SIZE=201", "DATA", "MAIL FROM:<> SIZE=200"),
            "552 big|503 order|250 sender|");
        talk.ask("RCPT TO:<a@here>", "DATA", ".");
        Talk.due("the sender that was taken", talk.mail.message(0, 2), 0);
    }

    private static void syntaxOrderBig() {
        Talk talk = Talk.greeted();
        talk.ask("MAIL FROM:<>");
        Talk.due("syntax ahead of order and big", talk.ask("MAIL FROM:<> SIZE=201 X"), SYNTAX);
        Talk.due("order ahead of big", talk.ask("MAIL FROM:<> SIZE=201"), "503 order|");
        Talk.due("syntax ahead of big", Talk.greeted().ask("MAIL FROM:<> SIZE=201 SIZE="), SYNTAX);
        Talk.due("order ahead of syntax without LHLO", new Talk().ask("MAIL FROM:<> SIZE="), "503 order|");
        Talk.due("order ahead of big without LHLO", new Talk().ask("MAIL FROM:<> SIZE=201"), "503 order|");
    }
}
