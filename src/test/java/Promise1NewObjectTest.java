/** Promise 1: a session has begun; no messages. */
public final class Promise1NewObjectTest {
    public static void main(String[] args) {
        MailLines mail = new MailLines();
        int[] counts = {0, 1, 0, 0, 0, 0};
        for (int what = 0; what < counts.length; what++) {
            Talk.due("count(" + what + ")", mail.count(what), counts[what]);
        }
        Talk.due("no message", mail.message(0, 0), -1);
        Talk.due("no bytes", mail.bytes(0, 0, 0), -1L);
        Talk.due("no answer", mail.reply(), 0L);
        Talk.due("bytes are taken", mail.send('N', 1), true);
        Talk.due("there was a session", new MailLines().open(), true);
        Talk.due("LHLO has not come yet", new Talk().ask("MAIL FROM:<>"), "503 order|");

        MailLines other = new MailLines();
        other.open();
        Talk.due("objects are apart", mail.count(4), 1);
        Talk.due("objects are apart", other.count(4), 0);
        Talk.finish();
    }
}
