import java.util.ArrayList;
import java.util.List;

/** Lines that are refused tell nothing and forget nothing, in every state of a session. */
public final class RefusedLinesTest {
    private static final String[] BAD = {"", " ", "FOO", "NOOPS", "LHLO", "LHLO ", "LHLO .", "MAIL", "MAIL FROM:",
        "MAIL FROM:<>x", "MAIL FROM:<> SIZE=", "RCPT", "RCPT TO:<>", "RCPT TO:<a@here>x", "DATA ", "RSET ", "RSET x",
        "NOOP x", "QUIT ", "QUIT x", "RCPT TO:<a@away>", "RCPT TO:<123456789@here>", "MAIL FROM:<> SIZE=201",
        "MAIL FROM:<>" + " SIZE=0".repeat(13), "RSET" + Talk.times(97, ' '), "LHLO " + Talk.times(96, 'x'),
        "QUIT" + Talk.times(300, ' ')};

    public static void main(String[] args) {
        List<String> lines = new ArrayList<>();
        refusedBehind(lines);
        for (String next : new String[] {"LHLO x", "MAIL FROM:<joe@x>", "RCPT TO:<a@here>", "RCPT TO:<b@here>",
            "RCPT TO:<c@here>", "RCPT TO:<d@here>"}) {
            lines.add(next);
            refusedBehind(lines);
        }
        orderBehind(List.of(), "MAIL FROM:<>", "RCPT TO:<a@here>", "DATA");
        orderBehind(List.of("LHLO x"), "RCPT TO:<a@here>", "DATA");
        orderBehind(List.of("LHLO x", "MAIL FROM:<>"), "MAIL FROM:<a@b>", "DATA");
        orderBehind(lines, "MAIL FROM:<a@b>", "RCPT TO:<e@here>");
        Talk.finish();
    }

    private static void refusedBehind(List<String> lines) {
        for (String bad : BAD) {
            twins(lines, bad);
        }
    }

    private static void orderBehind(List<String> lines, String... early) {
        for (String line : early) {
            twins(lines, line);
        }
    }

    private static void twins(List<String> lines, String bad) {
        Talk one = Talk.behind(lines.toArray(new String[0]));
        Talk other = Talk.behind(lines.toArray(new String[0]));
        String name = "behind " + lines.size() + " lines, '" + bad + "'";
        String answer = one.ask(bad);
        Talk.due(name + " is refused", answer.length() > 4 && "45".indexOf(answer.charAt(0)) >= 0, true);
        Talk.due("what is shown, " + name, one.shown(), other.shown());
        Talk.due("what goes on, " + name, goneOn(one), goneOn(other));
    }

    private static String goneOn(Talk talk) {
        return talk.ask("DATA", "x", ".", "RCPT TO:<z@here>", "MAIL FROM:<f@g>", "RCPT TO:<z@here>", "DATA",
            ".") + talk.shown();
    }
}
