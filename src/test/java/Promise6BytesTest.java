/** Promise 6: bytes tells what was handed over, eight bytes a call. */
public final class Promise6BytesTest {
    public static void main(String[] args) {
        Talk talk = Talk.greeted();
        talk.ask("MAIL FROM:<joe@far.net>", "RCPT TO:<ann.b@HERE>", "RCPT TO:<c@here>", "DATA",
            "\u00ff\u00fe\0abcdefgh", ".", "MAIL FROM:<>", "RCPT TO:<d@here>", "DATA", ".");
        Counted mail = talk.mail;
        String text = "\u00ff\u00fe\0abcdefgh\r\n";
        Talk.due("text", talk.part(0, 0, 13), text);
        Talk.due("sender", talk.part(0, 1, 11), "joe@far.net");
        Talk.due("first recipient", talk.part(0, 2, 10), "ann.b@HERE");
        Talk.due("first byte highest", mail.bytes(0, 0, 0), 0xfffe006162636465L);
        Talk.due("from byte 1", mail.bytes(0, 0, 1), 0xfe00616263646566L);
        Talk.due("0 behind the end", mail.bytes(0, 0, 11), 0x0d0a000000000000L);
        Talk.due("the last byte", mail.bytes(0, 0, 12), 0x0a00000000000000L);
        for (int i : new int[] {13, 14, 200, 1000, Integer.MAX_VALUE - 1, Integer.MAX_VALUE}) {
            for (int part = 0; part < 3; part++) {
                Talk.due("bytes(0, " + part + ", " + i + ")", mail.bytes(0, part, i), 0L);
            }
        }
        for (int part = 0; part < 2; part++) {
            Talk.due("empty part " + part, mail.bytes(1, part, 0), 0L);
        }
        Talk.due("first recipient", talk.part(1, 2, 6), "d@here");

        int[] wrong = {-1, Integer.MIN_VALUE, Integer.MAX_VALUE, 3};
        for (int w : wrong) {
            Talk.due("bytes(" + w + ", 0, 0)", mail.bytes(w, 0, 0), -1L);
            Talk.due("bytes(0, " + w + ", 0)", mail.bytes(0, w, 0), -1L);
            if (w < 0) {
                Talk.due("bytes(0, 0, " + w + ")", mail.bytes(0, 0, w), -1L);
                Talk.due("bytes(1, 1, " + w + ")", mail.bytes(1, 1, w), -1L);
            }
        }
        Talk.due("no message 2", mail.bytes(2, 0, 0), -1L);
        Talk.due("no message 10", mail.bytes(10, 0, 0), -1L);
        Talk.finish();
    }
}
