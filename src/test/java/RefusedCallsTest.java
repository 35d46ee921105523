import java.util.ArrayList;
import java.util.List;
import java.util.function.Function;

/**
 * "A call that is refused changes nothing": of two objects that were brought to the same state one takes
 * the refused call, and afterwards both show and answer the same.
 */
public final class RefusedCallsTest {
    private static final String[] MESSAGE = {"MAIL FROM:<joe@x>", "RCPT TO:<ann@here>", "DATA", "text", "."};

    private record Call(String name, Function<Counted, Object> made, Object want) { }

    /** What brings an object to a state: lines that are answered, lines whose answers wait, and bytes. */
    private record State(String name, List<String> lines, List<String> waiting, String bytes) {
        Talk talk() {
            Talk talk = Talk.behind(lines.toArray(new String[0]));
            talk.lines(waiting.toArray(new String[0]));
            talk.say(bytes);
            return talk;
        }
    }

    public static void main(String[] args) {
        List<State> states = inSession();
        for (State state : states) {
            for (Call call : refusedByArguments()) {
                twins(state, call);
            }
        }
        for (State state : withoutSession()) {
            for (Call call : refusedByArguments()) {
                twins(state, call);
            }
            for (Call call : refusedWithoutSession()) {
                twins(state, call);
            }
        }
        Talk.finish();
    }

    private static List<State> inSession() {
        List<String> recipients = new ArrayList<>(List.of("LHLO x", "MAIL FROM:<joe@x>"));
        List<State> all = new ArrayList<>();
        all.add(new State("new", List.of(), List.of(), ""));
        all.add(new State("in a line", List.of(), List.of("NOOP"), "RSE"));
        all.add(new State("behind a CR", List.of("LHLO x"), List.of(), "RSET\r"));
        all.add(new State("in a line too long", List.of(), List.of(), Talk.times(300, 'x')));
        all.add(new State("greeted", List.of("LHLO x"), List.of(), ""));
        all.add(new State("with a sender", recipients, List.of(), ""));
        for (int n = 1; n <= 4; n++) {
            recipients = new ArrayList<>(recipients);
            recipients.add("RCPT TO:<r" + n + "@here>");
            all.add(new State(n + " recipients", recipients, List.of(), ""));
        }
        for (String bytes : new String[] {"", "a", ".", ".\r", "a\r", "a\r\n.", "a\r\n.\r", Talk.times(300,
            'x') + "\r\n.\r"}) {
            all.add(new State("in a message", recipients, List.of("DATA"), bytes));
        }
        all.add(new State("answers wait", List.of("LHLO x"), List.of("NOOP", "FOO"), ""));
        List<String> noops = new ArrayList<>();
        for (int i = 0; i < 50; i++) {
            noops.add("NOOP");
        }
        all.add(new State("400 bytes wait", List.of("LHLO x"), noops, "N"));
        all.add(new State("a message", messages(1), List.of("MAIL FROM:<>"), ""));
        all.add(new State("ten messages", messages(10), List.of("MAIL FROM:<>"), ""));
        return all;
    }

    private static List<State> withoutSession() {
        List<State> all = new ArrayList<>();
        all.add(new State("no session", List.of(), List.of("QUIT"), ""));
        all.add(new State("no session, recipients", List.of("LHLO x", "MAIL FROM:<>", "RCPT TO:<a@here>"),
            List.of("QUIT"), ""));
        List<String> ten = messages(10);
        all.add(new State("no session, ten messages", ten, List.of("NOOP", "QUIT"), ""));
        return all;
    }

    private static List<String> messages(int n) {
        List<String> lines = new ArrayList<>(List.of("LHLO x"));
        for (int k = 0; k < n; k++) {
            lines.addAll(List.of(MESSAGE));
        }
        return lines;
    }

    private static List<Call> refusedByArguments() {
        List<Call> all = new ArrayList<>();
        long[] told = {-1L, 0x0d0a2e0d0a0d0aL, 0x525345540d0aL};
        for (int n : new int[] {0, 9, -1, Integer.MIN_VALUE, Integer.MAX_VALUE}) {
            for (long v : told) {
                all.add(new Call("send(" + v + ", " + n + ")", mail -> mail.send(v, n), false));
            }
        }
        for (int k : new int[] {-1, 10, Integer.MIN_VALUE, Integer.MAX_VALUE}) {
            all.add(new Call("message(" + k + ", 0)", mail -> mail.message(k, 0), -1));
            all.add(new Call("bytes(" + k + ", 0, 0)", mail -> mail.bytes(k, 0, 0), -1L));
        }
        for (int what : new int[] {-1, 4, Integer.MIN_VALUE, Integer.MAX_VALUE}) {
            all.add(new Call("message(0, " + what + ")", mail -> mail.message(0, what), -1));
            all.add(new Call("bytes(0, " + what + ", 0)", mail -> mail.bytes(0, what, 0), -1L));
        }
        for (int i : new int[] {-1, -8, Integer.MIN_VALUE}) {
            for (int part = 0; part < 3; part++) {
                int one = part;
                all.add(new Call("bytes(0, " + part + ", " + i + ")", mail -> mail.bytes(0, one, i), -1L));
            }
        }
        for (int what : new int[] {-1, 6, Integer.MIN_VALUE, Integer.MAX_VALUE}) {
            all.add(new Call("count(" + what + ")", mail -> mail.count(what), -1));
        }
        return all;
    }

    private static List<Call> refusedWithoutSession() {
        List<Call> all = new ArrayList<>();
        // NOOP, RSET and bytes of no meaning, whole lines and parts of them.
        for (long v : new long[] {0x4e4f4f500d0aL, 0x525345540d0aL, 0x0d0aL, -1L, 0L}) {
            for (int n = 1; n <= 8; n++) {
                int count = n;
                all.add(new Call("send(" + v + ", " + n + ")", mail -> mail.send(v, count), false));
            }
        }
        return all;
    }

    private static void twins(State state, Call call) {
        Talk one = state.talk();
        Talk other = state.talk();
        String name = state.name() + ": " + call.name();
        Talk.due(name, call.made().apply(one.mail), call.want());
        Talk.due("what is shown behind " + name, one.shown(), other.shown());
        Talk.due("what is heard behind " + name, one.heard(), other.heard());
        Talk.due("what goes on behind " + name, goneOn(one), goneOn(other));
    }

    /** Ends the line or message that there is, and lets LHLO, sender, recipients and messages be seen. */
    private static String goneOn(Talk talk) {
        boolean taken = talk.say("\r\n.\r\nDATA\r\n.\r\nRCPT TO:<z@here>\r\nMAIL FROM:<>\r\n");
        String heard = talk.heard();
        boolean was = talk.mail.open();
        heard += talk.ask("MAIL FROM:<>", "NOOP");
        return taken + " " + heard + " " + was + " " + talk.shown();
    }
}
