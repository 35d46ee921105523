/** A MailLines whose calls are counted: a test may not lean on what is answered behind the 512th. */
final class Counted {
    private final MailLines mail = new MailLines();
    private int calls = 0;

    private MailLines next() {
        calls++;
        if (calls > 512) {
            throw new IllegalStateException("a test uses an object for more than 512 calls");
        }
        return mail;
    }

    int calls() {
        return calls;
    }

    boolean send(long v, int n) {
        return next().send(v, n);
    }

    long reply() {
        return next().reply();
    }

    boolean open() {
        return next().open();
    }

    int message(int k, int what) {
        return next().message(k, what);
    }

    long bytes(int k, int part, int i) {
        return next().bytes(k, part, i);
    }

    int count(int what) {
        return next().count(what);
    }
}
