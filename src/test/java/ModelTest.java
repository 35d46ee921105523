import java.util.Random;

/** Long runs of calls, made from set seeds: every answer is the model's. */
public final class ModelTest {
    private static final int RUNS = 6000;
    private static final int CALLS = 512;
    private static final String[] WHOLE = {
        "LHLO x\r\n", "lhlo a.b-c\r\n", "MAIL FROM:<>\r\n", "MAIL FROM:<joe@far.net>\r\n", "mail from:<a@b> SIZE=20\r\n",
        "MAIL FROM:<a@b> SIZE=201\r\n", "RCPT TO:<a@here>\r\n", "RCPT TO:<b.c@HERE>\r\n", "rcpt to:<12345678@here>\r\n",
        "RCPT TO:<a@there>\r\n", "DATA\r\n", "DATA\r\n", "DATA\r\n.\r\n", "RSET\r\n", "NOOP\r\n", "FOO\r\n", ".\r\n", "\r\n.\r\n",
        "..\r\n", "hello\r\n", "..dots\r\n",
        "LHLO x\r\nMAIL FROM:<>\r\nRCPT TO:<a@here>\r\nDATA\r\n", "RSET\r\nMAIL FROM:<q@r>\r\nRCPT TO:<z@Here>\r\nDATA\r\n"};
    private static final String[] PIECES = {
        "LHLO", "MAIL", "RCPT", "DATA", "RSET", "NOOP", "QUIT", " ", " ", "FROM:", "TO:", "<", ">", "<>", "@", ".", "..", "a", "here",
        "HERE", "joe", "far.net", "<a@here>", " SIZE=", " SIZE=200", " BODY=8BITMIME", "201", "0", "\r", "\n", "\r\n", "\r\n", "\r\n.\r\n",
        "-", "_", "!", "\u00ff", "\0", "zzzzzzzzzzzzzzzzzzzzzzzzzzzzzzzzzzzz", "yyyyyyyyyyyyyyyyyyy.yyyyyyyyyyyyyyyyyyyy"};
    private static final int[] EDGES = {Integer.MIN_VALUE, -1, 0, 1, 2, 3, 4, 5, 6, 7, 8, 9, 10, 100, 199, 200, Integer.MAX_VALUE};

    private final Random random;
    private final MailLines mail = new MailLines();
    private final Model model = new Model();
    private final String name;
    private int calls = 0;

    private ModelTest(int seed) {
        random = new Random(seed);
        name = "seed " + seed;
    }

    public static void main(String[] args) {
        for (int seed = 0; seed < RUNS; seed++) {
            new ModelTest(seed).run();
        }
        Talk.finish();
    }

    private void run() {
        // Some runs begin with nearly as many messages as there may be.
        if (random.nextInt(4) == 0) {
            feed("LHLO x\r\n");
            for (int k = 0; k < 9; k++) {
                feed("MAIL FROM:<>\r\nRCPT TO:<a@here>\r\nDATA\r\n" + k + "\r\n.\r\n");
            }
        }
        while (calls < CALLS) {
            int kind = random.nextInt(40);
            if (kind < 16) {
                feed(WHOLE[random.nextInt(WHOLE.length)]);
            } else if (kind < 20) {
                feed(mixture());
            } else if (kind == 20) {
                feed(letters());
            } else if (kind < 26) {
                due("reply()", mail.reply(), model.reply());
            } else if (kind < 32) {
                look();
            } else if (kind == 32 && (model.count(1) == 0 || random.nextInt(12) == 0)) {
                due("open()", mail.open(), model.open());
            } else if (kind == 33 && random.nextInt(12) == 0) {
                feed("QUIT\r\n");
            } else if (kind == 34) {
                send(random.nextLong(), edge());
            }
        }
    }

    private void look() {
        int k = random.nextInt(3) == 0 ? edge() : random.nextInt(11);
        int what = random.nextInt(6) == 0 ? edge() : random.nextInt(4);
        int i = random.nextInt(3) == 0 ? edge() : random.nextInt(210);
        due("message(" + k + ", " + what + ")", mail.message(k, what), model.message(k, what));
        due("bytes(" + k + ", " + what + ", " + i + ")", mail.bytes(k, what, i), model.bytes(k, what, i));
        int counted = random.nextInt(8) == 0 ? edge() : random.nextInt(6);
        due("count(" + counted + ")", mail.count(counted), model.count(counted));
    }

    private int edge() {
        return EDGES[random.nextInt(EDGES.length)];
    }

    private String mixture() {
        StringBuilder all = new StringBuilder();
        for (int n = 1 + random.nextInt(6); n > 0; n--) {
            all.append(PIECES[random.nextInt(PIECES.length)]);
        }
        return random.nextBoolean() ? all + "\r\n" : all.toString();
    }

    private String letters() {
        int length = random.nextBoolean() ? 90 + random.nextInt(20) : 190 + random.nextInt(20);
        return "x".repeat(length) + "\r\n";
    }

    private void feed(String told) {
        int from = 0;
        while (from < told.length() && calls < CALLS) {
            int n = Math.min(told.length() - from, random.nextInt(4) == 0 ? 1 + random.nextInt(8) : 8);
            // What stands above the lowest n bytes must not matter.
            long v = random.nextLong();
            for (int i = 0; i < n; i++) {
                v = v << 8 | told.charAt(from + i);
            }
            send(v, n);
            from += n;
            if (random.nextInt(6) == 0) {
                due("count(4)", mail.count(4), model.count(4));
            }
        }
    }

    private void send(long v, int n) {
        due("send(" + v + ", " + n + ")", mail.send(v, n), model.send(v, n));
    }

    private void due(String call, Object got, Object want) {
        calls++;
        Talk.due(name + ", call " + calls + ", " + call, got, want);
    }
}
