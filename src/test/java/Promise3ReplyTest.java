/** Promise 3: reply takes at most seven bytes; at most 400 wait. */
public final class Promise3ReplyTest {
    public static void main(String[] args) {
        Talk talk = new Talk();
        Talk.due("nothing waits", talk.mail.reply(), 0L);
        talk.lines("NOOP");
        Talk.due("seven bytes", talk.mail.reply(), 0x07_323530206f6b0dL);
        Talk.due("one byte, highest", talk.mail.reply(), 0x01_0a000000000000L);
        Talk.due("taken", talk.mail.reply(), 0L);
        Talk.due("taken", talk.mail.reply(), 0L);

        talk.say("NOOP");
        Talk.due("no answer ahead of CRLF", talk.mail.reply(), 0L);
        talk.say("\r\n");
        Talk.due("one answer", talk.heard(), "250 ok|");

        mostWaiting();
        cutInTwo();
        Talk.finish();
    }

    private static void mostWaiting() {
        Talk talk = new Talk();
        for (int i = 0; i < 50; i++) {
            talk.lines("NOOP");
        }
        Talk.due("400 wait", talk.mail.count(5), 400);
        talk.lines("FOO", "QUIT");
        Talk.due("at most 400 wait", talk.mail.count(5), 400);
        Talk.due("QUIT is heeded all the same", talk.mail.count(1), 0);
        Talk.due("what is beyond is left out", talk.heard(), "250 ok|".repeat(50));
    }

    private static void cutInTwo() {
        Talk talk = new Talk();
        for (int i = 0; i < 49; i++) {
            talk.lines("NOOP");
        }
        talk.mail.reply();
        Talk.due("385 wait", talk.mail.count(5), 385);
        talk.lines("FOO", "FOO");
        Talk.due("400 wait", talk.mail.count(5), 400);
        Talk.due("the rest of an answer is left out", talk.heard(),
            "\n" + "250 ok|".repeat(48) + "500 unknown|50");
        talk.lines("NOOP");
        Talk.due("there is room again", talk.heard(), "250 ok|");
    }
}
