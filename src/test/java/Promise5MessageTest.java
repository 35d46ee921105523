/** Promise 5: message tells the lengths of what was handed over. */
public final class Promise5MessageTest {
    private static final int[] WRONG = {-1, 4, 5, Integer.MIN_VALUE, Integer.MAX_VALUE};

    public static void main(String[] args) {
        Talk talk = Talk.greeted();
        talk.ask("MAIL FROM:<joe@far.net>", "RCPT TO:<ann.b@HERE>", "RCPT TO:<c@here>", "RCPT TO:<c@here>", "DATA");
        talk.ask("..a", "b");
        Talk.due("not handed over yet", talk.mail.message(0, 0), -1);
        talk.ask(".", "MAIL FROM:<>", "RCPT TO:<d@here>", "DATA", ".");

        int[][] due = {{7, 3, 11, 10}, {0, 1, 0, 6}};
        for (int k = 0; k < due.length; k++) {
            for (int what = 0; what < 4; what++) {
                Talk.due("message(" + k + ", " + what + ")", talk.mail.message(k, what), due[k][what]);
            }
            for (int what : WRONG) {
                Talk.due("message(" + k + ", " + what + ")", talk.mail.message(k, what), -1);
            }
        }
        for (int k : new int[] {2, 9, 10, 11, -1, Integer.MIN_VALUE, Integer.MAX_VALUE}) {
            for (int what = -1; what <= 4; what++) {
                Talk.due("message(" + k + ", " + what + ")", talk.mail.message(k, what), -1);
            }
        }
        largest();
        Talk.finish();
    }

    private static void largest() {
        Talk talk = Talk.greeted();
        String local = Talk.times(40, 'l');
        String domain = Talk.times(48, 'd');
        talk.ask("MAIL FROM:<" + local + "@" + domain.substring(1) + ">", "RCPT TO:<12345678@here>", "RCPT TO:<b@here>",
            "RCPT TO:<c@here>", "RCPT TO:<d@here>", "DATA", Talk.times(198, 'x'), ".");
        Talk.due("200 bytes", talk.mail.message(0, 0), 200);
        Talk.due("four recipients", talk.mail.message(0, 1), 4);
        Talk.due("the longest sender a line can hold", talk.mail.message(0, 2), 88);
        Talk.due("the longest recipient", talk.mail.message(0, 3), 13);
        Talk.due("its text", talk.part(0, 1, 88), local + "@" + domain.substring(1));
        Talk.due("its text", talk.part(0, 2, 13), "12345678@here");
    }
}
