/** Promise 2: false if n is not 1 .. 8, or there is no session; bytes behind QUIT's line are passed over. */
public final class Edge2ArgumentsTest {
    public static void main(String[] args) {
        fewestBytes();
        mostBytes();
        largestAndSmallestInt();
        lowestBytesHighestFirst();
        noSession();
        bytesBehindQuit();
        Talk.finish();
    }

    /** Sends 'x' bytes on a new object; n of them are its line so far, if the call is taken. */
    private static void taken(int n, boolean want) {
        MailLines mail = new MailLines();
        Talk.due("send(.., " + n + ")", mail.send(0x7878787878787878L, n), want);
        Talk.due("bytes by send(.., " + n + ")", mail.count(4), want ? n : 0);
    }

    private static void fewestBytes() {
        taken(-1, false);
        taken(0, false);
        taken(1, true);
        taken(2, true);
    }

    private static void mostBytes() {
        taken(7, true);
        taken(8, true);
        taken(9, false);
        taken(16, false);
    }

    private static void largestAndSmallestInt() {
        // Some of these are 1 .. 8 in their lowest byte or three bits.
        for (int n : new int[] {Integer.MIN_VALUE, Integer.MIN_VALUE + 1, -8, -255, 257, 65537, Integer.MAX_VALUE - 6,
            Integer.MAX_VALUE}) {
            taken(n, false);
        }
    }

    private static void lowestBytesHighestFirst() {
        String told = "NOOP\r\n";
        for (int n = 1; n <= 8; n++) {
            // The bytes above the lowest n are CRLF and letters, which must not come.
            Talk talk = new Talk();
            int from = 0;
            while (from < told.length()) {
                int now = Math.min(n, told.length() - from);
                long v = 0x0d0a51550d0a5155L;
                for (int i = 0; i < now; i++) {
                    v = v << 8 | told.charAt(from + i);
                }
                Talk.due(now + " bytes a call", talk.mail.send(v, now), true);
                from += now;
            }
            Talk.due(n + " bytes a call", talk.heard(), "250 ok|");
        }
        MailLines mail = new MailLines();
        mail.send(Long.MIN_VALUE, 8);
        Talk.due("eight bytes of the smallest long", mail.count(4), 8);
        mail.send(Long.MAX_VALUE, 8);
        Talk.due("eight bytes of the largest long", mail.count(4), 16);
        mail.send(-1L, 1);
        Talk.due("one byte of -1", mail.count(4), 17);
    }

    private static void noSession() {
        Talk talk = Talk.behind("QUIT");
        for (int n = -1; n <= 10; n++) {
            Talk.due("no session, n=" + n, talk.mail.send(0x4e4f4f500d0aL, n), false);
        }
        Talk.due("nothing came", talk.mail.count(4), 0);
        Talk.due("nothing is answered", talk.heard(), "");
        talk.mail.open();
        Talk.due("a session again", talk.mail.send('N', 1), true);
        Talk.due("n is looked at in it", talk.mail.send('N', 0), false);
    }

    private static void bytesBehindQuit() {
        String behind = "\r\nNOOP\r\n";
        for (int n = 0; n < 8; n++) {
            Talk talk = new Talk();
            talk.say("QUIT\r");
            String name = n + " bytes behind QUIT";
            Talk.due(name, talk.say("\n" + behind.substring(behind.length() - n)), true);
            Talk.due(name, talk.heard(), "221 bye|");
            Talk.due(name, talk.mail.count(1), 0);
            Talk.due(name, talk.mail.count(4), 0);
            Talk.due(name, talk.say("N"), false);
            talk.mail.open();
            Talk.due(name + " do not come later", talk.ask("NOOP"), "250 ok|");
        }
        Talk talk = new Talk();
        Talk.due("a second QUIT", talk.mail.send(0x515549540d0aL, 6), true);
        Talk.due("a second QUIT", talk.mail.send(0x515549540d0aL, 6), false);
        Talk.due("a second QUIT", talk.heard(), "221 bye|");
    }
}
