import java.util.ArrayList;
import java.util.Arrays;
import java.util.List;

/**
 * "Terms": the order of the commands, with and without LHLO, sender, recipient. Every command in every
 * state has the answer that is due, and leaves the session in the state that is due.
 */
public final class Edge2OrderTest {
    /** The lines that lead to each state. */
    private static final String[][] STATES = {
        {},
        {"LHLO x"},
        {"LHLO x", "MAIL FROM:<>"},
        {"LHLO x", "MAIL FROM:<>", "RCPT TO:<a@here>"},
        {"LHLO x", "MAIL FROM:<>", "RCPT TO:<a@here>", "RCPT TO:<a@here>", "RCPT TO:<a@here>", "RCPT TO:<a@here>"},
    };
    private static final int MORE = 9;
    private static final String ORDER = "503 order|";
    private static final String SYNTAX = "501 syntax|";
    private static final String TAKEN = "250 <a@here>|";

    /** A command, its answer in each state, and the state behind it in each state (MORE: between the last two). */
    private record Row(String command, String[] answers, int[] next) { }

    private static final List<Row> ROWS = new ArrayList<>();

    private static void row(String command, String[] answers, int... next) {
        ROWS.add(new Row(command, answers, next));
    }

    private static String[] each(String... answers) {
        return answers;
    }

    private static String[] all(String answer) {
        String[] answers = new String[STATES.length];
        Arrays.fill(answers, answer);
        return answers;
    }

    private static String[] behindLhlo(String answer) {
        String[] answers = all(answer);
        answers[0] = ORDER;
        return answers;
    }

    public static void main(String[] args) {
        row("LHLO x", all("250 here|"), 1, 1, 1, 1, 1);
        row("LHLO", all(SYNTAX), 0, 1, 2, 3, 4);
        row("LHLO ", all(SYNTAX), 0, 1, 2, 3, 4);
        row("LHLO a..b", all(SYNTAX), 0, 1, 2, 3, 4);
        row("MAIL FROM:<>", each(ORDER, "250 sender|", ORDER, ORDER, ORDER), 0, 2, 2, 3, 4);
        row("MAIL FROM:<a@b>", each(ORDER, "250 sender|", ORDER, ORDER, ORDER), 0, 2, 2, 3, 4);
        row("MAIL FROM:<> SIZE=201", each(ORDER, "552 big|", ORDER, ORDER, ORDER), 0, 1, 2, 3, 4);
        row("MAIL FROM:<", behindLhlo(SYNTAX), 0, 1, 2, 3, 4);
        row("MAIL", behindLhlo(SYNTAX), 0, 1, 2, 3, 4);
        row("RCPT TO:<a@here>", each(ORDER, ORDER, "250 recipient|", "250 recipient|", "452 many|"), 0, 1, 3, MORE, 4);
        row("RCPT TO:<a@away>", each(ORDER, ORDER, "550 none|", "550 none|", "550 none|"), 0, 1, 2, 3, 4);
        row("RCPT TO:<123456789@here>", each(ORDER, ORDER, "550 none|", "550 none|", "550 none|"), 0, 1, 2, 3, 4);
        row("RCPT TO:<>", behindLhlo(SYNTAX), 0, 1, 2, 3, 4);
        row("RCPT", behindLhlo(SYNTAX), 0, 1, 2, 3, 4);
        row("DATA\r\n.", each(ORDER + "500 unknown|", ORDER + "500 unknown|", ORDER + "500 unknown|", "354 go|" + TAKEN,
            "354 go|" + TAKEN.repeat(4)), 0, 1, 2, 1, 1);
        row("DATA\r\n" + Talk.times(199, 'x') + "\r\n.", each(ORDER + "500 too long|500 unknown|", ORDER
            + "500 too long|500 unknown|", ORDER + "500 too long|500 unknown|", "354 go|552 big|",
            "354 go|552 big|552 big|552 big|552 big|"), 0, 1, 2, 1, 1);
        row("DATA ", behindLhlo(SYNTAX), 0, 1, 2, 3, 4);
        row("RSET", all("250 ok|"), 0, 1, 1, 1, 1);
        row("RSET ", all(SYNTAX), 0, 1, 2, 3, 4);
        row("NOOP", all("250 ok|"), 0, 1, 2, 3, 4);
        row("NOOP ", all(SYNTAX), 0, 1, 2, 3, 4);
        row("QUIT ", all(SYNTAX), 0, 1, 2, 3, 4);
        row("EHLO x", all("500 unknown|"), 0, 1, 2, 3, 4);
        row("", all("500 unknown|"), 0, 1, 2, 3, 4);
        for (int state = 0; state < STATES.length; state++) {
            for (Row row : ROWS) {
                stepFrom(state, row);
            }
            quitFrom(state);
            openFrom(state);
        }
        betweenOneAndFour();
        Talk.finish();
    }

    private static void stepFrom(int state, Row row) {
        String name = "state " + state + ", " + row.command();
        Talk.due(name, Talk.behind(STATES[state]).ask(row.command()), row.answers()[state]);
        int next = row.next()[state];
        if (next != MORE) {
            isState(name, STATES[state], row.command(), next);
        }
    }

    /** Whether each command behind the lines and one more is answered as the state has it. */
    private static void isState(String name, String[] lines, String one, int state) {
        for (Row probe : ROWS) {
            Talk talk = Talk.behind(lines);
            talk.ask(one);
            Talk.due(name + ", then " + probe.command(), talk.ask(probe.command()), probe.answers()[state]);
        }
    }

    private static void quitFrom(int state) {
        Talk talk = Talk.behind(STATES[state]);
        Talk.due("state " + state + ", QUIT", talk.ask("QUIT"), "221 bye|");
        Talk.due("state " + state + ", no session", talk.mail.count(1), 0);
        for (Row probe : ROWS) {
            Talk.due("behind QUIT " + probe.command(), talk.ask(probe.command()), "");
        }
    }

    private static void openFrom(int state) {
        for (String quit : new String[] {"NOOP", "QUIT"}) {
            for (Row probe : ROWS) {
                Talk talk = Talk.behind(STATES[state]);
                talk.ask(quit);
                Talk.due("state " + state + ", " + quit + ", open", talk.mail.open(), quit.equals("NOOP"));
                Talk.due("behind open " + probe.command(), talk.ask(probe.command()), probe.answers()[0]);
            }
        }
    }

    private static void betweenOneAndFour() {
        Talk talk = Talk.behind(STATES[2]);
        for (int n = 1; n <= 6; n++) {
            Talk.due("recipient " + n, talk.ask("RCPT TO:<a@here>"), n <= 4 ? "250 recipient|" : "452 many|");
            Talk.due("recipients behind " + n, talk.mail.count(3), Math.min(n, 4));
        }
        Talk.due("syntax and none ahead of many", talk.ask("RCPT TO:<a@here", "RCPT TO:<a@away>"), "501 syntax|550 none|");
        Talk.due("one answer each", talk.ask("DATA", "."), "354 go|" + TAKEN.repeat(4));
    }
}
