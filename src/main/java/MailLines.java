/**
 * A session in which mail is handed over line by line.
 * The numbered promises that it keeps stand in the document (DOC.md).
 */
public final class MailLines {
    private static final int CR = 13;
    private static final int LF = 10;
    private static final int MOST_LINE = 100;
    private static final int MOST_TEXT = 200;
    private static final int MOST_LETTERS = 10;
    private static final int MOST_RECIPIENTS = 4;
    private static final int MOST_WAITING = 400;
    private static final int MOST_LOCAL_HERE = 8;
    // A text of one byte too many and the CR of the line that ends it still
    // differ from the largest text allowed, so a full row hides nothing.
    private static final int MOST_SO_FAR = 202;

    private static final String SENDER = "MAIL FROM:";
    private static final String NO_SENDER = "MAIL FROM:<>";
    private static final String RECIPIENT = "RCPT TO:";
    private static final String SYNTAX = "501 syntax";
    private static final String ORDER = "503 order";
    private static final String BIG = "552 big";
    private static final String OK = "250 ok";

    private final Row answers;
    private final LineReader line;
    private final TextReader text;
    private final Envelope envelope;
    private final Letter[] letters;
    private int letterCount;
    private boolean inSession;
    private boolean greeted;
    private boolean inText;

    public MailLines() {
        answers = new Row(MOST_WAITING);
        line = new LineReader();
        text = new TextReader();
        envelope = new Envelope();
        letters = new Letter[MOST_LETTERS];
        for (int i = 0; i < letters.length; i++) {
            letters[i] = new Letter();
        }
        inSession = true;
    }

    public boolean send(long v, int n) {
        if (n < 1 || n > 8 || !inSession) {
            return false;
        }
        for (int place = n - 1; place >= 0 && inSession; place--) {
            takeByte((int) (v >>> (8 * place)) & 255);
        }
        return true;
    }

    public long reply() {
        int taken = Math.min(7, answers.length());
        long word = taken;
        for (int i = 0; i < 7; i++) {
            word = (word << 8) | answers.at(i);
        }
        answers.dropFirst(taken);
        return word;
    }

    public boolean open() {
        boolean was = inSession;
        inSession = true;
        greeted = false;
        inText = false;
        line.clear();
        envelope.clear();
        return was;
    }

    public int message(int k, int what) {
        Letter letter = letterOrNull(k);
        if (letter == null) {
            return -1;
        }
        switch (what) {
            case 0:
                return letter.text().length();
            case 1:
                return letter.recipients();
            case 2:
                return letter.sender().length();
            case 3:
                return letter.firstRecipient().length();
            default:
                return -1;
        }
    }

    public long bytes(int k, int part, int i) {
        Letter letter = letterOrNull(k);
        if (letter == null || i < 0) {
            return -1;
        }
        switch (part) {
            case 0:
                return letter.text().eightFrom(i);
            case 1:
                return letter.sender().eightFrom(i);
            case 2:
                return letter.firstRecipient().eightFrom(i);
            default:
                return -1;
        }
    }

    public int count(int what) {
        switch (what) {
            case 0:
                return letterCount;
            case 1:
                return inSession ? 1 : 0;
            case 2:
                return inText ? 1 : 0;
            case 3:
                return envelope.recipients();
            case 4:
                return inText ? text.row().length() : line.row().length();
            case 5:
                return answers.length();
            default:
                return -1;
        }
    }

    private Letter letterOrNull(int k) {
        return k >= 0 && k < letterCount && k < letters.length ? letters[k] : null;
    }

    private void takeByte(int b) {
        if (inText) {
            if (text.endsWith(b)) {
                endText(text.row());
            }
        } else if (line.endsWith(b)) {
            answer(replyTo(line.row()));
            line.clear();
        }
    }

    private void answer(String reply) {
        answers.addText(reply);
        endAnswer();
    }

    private void answerTaken(Row address) {
        answers.addText("250 <");
        answers.addPart(address, 0, address.length());
        answers.add('>');
        endAnswer();
    }

    private void endAnswer() {
        answers.add(CR);
        answers.add(LF);
    }

    private String replyTo(Row told) {
        if (told.length() > MOST_LINE) {
            return "500 too long";
        }
        if (Grammar.hasFirstWord(told, "LHLO")) {
            return replyToGreeting(told);
        }
        if (Grammar.hasFirstWord(told, "MAIL")) {
            return greeted ? replyToSender(told) : ORDER;
        }
        if (Grammar.hasFirstWord(told, "RCPT")) {
            return greeted ? replyToRecipient(told) : ORDER;
        }
        if (Grammar.hasFirstWord(told, "DATA")) {
            return greeted ? replyToData(told) : ORDER;
        }
        if (Grammar.hasFirstWord(told, "RSET")) {
            return replyToReset(told);
        }
        if (Grammar.hasFirstWord(told, "NOOP")) {
            return Grammar.isBareWord(told) ? OK : SYNTAX;
        }
        if (Grammar.hasFirstWord(told, "QUIT")) {
            return replyToQuit(told);
        }
        return "500 unknown";
    }

    private String replyToGreeting(Row told) {
        if (!Grammar.isGreeting(told)) {
            return SYNTAX;
        }
        greeted = true;
        envelope.clear();
        return "250 here";
    }

    private String replyToSender(Row told) {
        boolean nameless = told.hasWord(0, NO_SENDER);
        int end = nameless ? NO_SENDER.length() : Grammar.pathEnd(told, SENDER);
        int size = end < 0 ? -1 : Grammar.largestSize(told, end);
        if (size < 0) {
            return SYNTAX;
        }
        if (envelope.hasSender()) {
            return ORDER;
        }
        if (size > MOST_TEXT) {
            return BIG;
        }
        envelope.setSender(told, SENDER.length() + 1, end - 1);
        return "250 sender";
    }

    private String replyToRecipient(Row told) {
        int end = Grammar.pathEnd(told, RECIPIENT);
        if (end != told.length()) {
            return SYNTAX;
        }
        if (!envelope.hasSender()) {
            return ORDER;
        }
        if (!Grammar.isHere(told, RECIPIENT.length() + 1)) {
            return "550 none";
        }
        if (envelope.recipients() >= MOST_RECIPIENTS) {
            return "452 many";
        }
        envelope.addRecipient(told, RECIPIENT.length() + 1, end - 1);
        return "250 recipient";
    }

    private String replyToData(Row told) {
        if (!Grammar.isBareWord(told)) {
            return SYNTAX;
        }
        if (envelope.recipients() == 0) {
            return ORDER;
        }
        inText = true;
        text.clear();
        return "354 go";
    }

    private String replyToReset(Row told) {
        if (!Grammar.isBareWord(told)) {
            return SYNTAX;
        }
        envelope.clear();
        return OK;
    }

    private String replyToQuit(Row told) {
        if (!Grammar.isBareWord(told)) {
            return SYNTAX;
        }
        // Sender and recipients stay told: QUIT is not said to forget them, open begins anew.
        inSession = false;
        return "221 bye";
    }

    private void endText(Row told) {
        boolean big = told.length() > MOST_TEXT;
        boolean full = letterCount >= letters.length;
        for (int i = 0; i < envelope.recipients(); i++) {
            Row address = envelope.recipientOrNull(i);
            if (big) {
                answer(BIG);
            } else if (full) {
                answer("452 full");
            } else if (address != null) {
                answerTaken(address);
            }
        }
        if (!big && !full) {
            letters[letterCount].fill(told, envelope);
            letterCount++;
        }
        envelope.clear();
        inText = false;
    }

    /** Bytes in a row with a set room; what comes when it is full is left out. */
    private static final class Row {
        private final byte[] cells;
        private int length;

        Row(int room) {
            cells = new byte[Math.max(room, 0)];
        }

        int length() {
            return length;
        }

        /** The byte at i as 0 .. 255, and 0 where there is none. */
        int at(int i) {
            return i >= 0 && i < length ? cells[i] & 255 : 0;
        }

        void clear() {
            length = 0;
        }

        void add(int b) {
            if (length < cells.length) {
                cells[length] = (byte) b;
                length++;
            }
        }

        void addText(String told) {
            for (int i = 0; i < told.length(); i++) {
                add(told.charAt(i));
            }
        }

        void addPart(Row other, int from, int to) {
            for (int i = from; i < to; i++) {
                add(other.at(i));
            }
        }

        void dropFirst(int n) {
            if (n > 0 && n <= length) {
                System.arraycopy(cells, n, cells, 0, length - n);
                length -= n;
            }
        }

        void dropLast() {
            if (length > 0) {
                length--;
            }
        }

        long eightFrom(int i) {
            long word = 0;
            for (int j = 0; j < 8; j++) {
                word = (word << 8) | at(i + j);
            }
            return word;
        }

        /** Whether the word stands at from, A .. Z like a .. z. */
        boolean hasWord(int from, String word) {
            for (int i = 0; i < word.length(); i++) {
                if (withoutCase(at(from + i)) != withoutCase(word.charAt(i))) {
                    return false;
                }
            }
            return true;
        }

        private static int withoutCase(int b) {
            return b >= 'A' && b <= 'Z' ? b + ('a' - 'A') : b;
        }
    }

    /** Puts a command's line together. */
    private static final class LineReader {
        private final Row row;
        private boolean behindCr;

        LineReader() {
            row = new Row(MOST_SO_FAR);
        }

        /** The line so far, or the whole line without CRLF when it has ended. */
        Row row() {
            return row;
        }

        void clear() {
            row.clear();
            behindCr = false;
        }

        /** Takes a byte, and tells whether the line ends with it. */
        boolean endsWith(int b) {
            if (b == LF && behindCr) {
                row.dropLast();
                return true;
            }
            row.add(b);
            behindCr = b == CR;
            return false;
        }
    }

    /** Puts a message's lines together, without the dots that were set before them. */
    private static final class TextReader {
        private final Row row;
        private boolean behindCr;
        private boolean behindDot;
        private int lineBytes;

        TextReader() {
            row = new Row(MOST_SO_FAR);
        }

        /** The message so far, or the whole message when it has ended. */
        Row row() {
            return row;
        }

        void clear() {
            row.clear();
            startLine();
        }

        /** Takes a byte, and tells whether the message ends with it. */
        boolean endsWith(int b) {
            boolean lineEnds = b == LF && behindCr;
            if (lineEnds && behindDot && lineBytes == 2) {
                // The last line's dot was never put in, its CR was.
                row.dropLast();
                return true;
            }
            // A first dot is no byte of the message, whether it ends it or
            // more stands behind it.
            boolean firstDot = lineBytes == 0 && b == '.';
            if (!firstDot) {
                row.add(b);
            }
            if (lineEnds) {
                startLine();
            } else {
                behindDot = behindDot || firstDot;
                behindCr = b == CR;
                lineBytes++;
            }
            return false;
        }

        private void startLine() {
            behindCr = false;
            behindDot = false;
            lineBytes = 0;
        }
    }

    /** The sender and the recipients that have been told. */
    private static final class Envelope {
        private final Row sender;
        private final Row[] addresses;
        private boolean senderTold;
        private int recipients;

        Envelope() {
            sender = new Row(MOST_LINE);
            addresses = new Row[MOST_RECIPIENTS];
            for (int i = 0; i < addresses.length; i++) {
                addresses[i] = new Row(MOST_LINE);
            }
        }

        void clear() {
            senderTold = false;
            recipients = 0;
        }

        boolean hasSender() {
            return senderTold;
        }

        Row sender() {
            return sender;
        }

        void setSender(Row told, int from, int to) {
            sender.clear();
            sender.addPart(told, from, to);
            senderTold = true;
        }

        int recipients() {
            return recipients;
        }

        Row recipientOrNull(int i) {
            return i >= 0 && i < recipients && i < addresses.length ? addresses[i] : null;
        }

        void addRecipient(Row told, int from, int to) {
            if (recipients < addresses.length) {
                Row address = addresses[recipients];
                address.clear();
                address.addPart(told, from, to);
                recipients++;
            }
        }
    }

    /** A message that was handed over. */
    private static final class Letter {
        private final Row text;
        private final Row sender;
        private final Row firstRecipient;
        private int recipients;

        Letter() {
            text = new Row(MOST_TEXT);
            sender = new Row(MOST_LINE);
            firstRecipient = new Row(MOST_LINE);
        }

        void fill(Row told, Envelope envelope) {
            text.addPart(told, 0, told.length());
            sender.addPart(envelope.sender(), 0, envelope.sender().length());
            Row first = envelope.recipientOrNull(0);
            if (first != null) {
                firstRecipient.addPart(first, 0, first.length());
            }
            recipients = envelope.recipients();
        }

        int recipients() {
            return recipients;
        }

        Row text() {
            return text;
        }

        Row sender() {
            return sender;
        }

        Row firstRecipient() {
            return firstRecipient;
        }
    }

    /** What a command's line must look like; an end is the place behind something, or -1. */
    private static final class Grammar {
        private static final int WORD = 4;
        private static final int MOST_LOCAL = 40;
        private static final int MOST_DOMAIN = 60;
        private static final int MOST_DIGITS = 9;
        private static final String LOCAL_MARKS = "!#$%&'*+-/=?^_`{|}~";
        private static final String DOMAIN_MARKS = "-";
        private static final String BODY = " BODY=8BITMIME";
        private static final String SIZE = " SIZE=";

        static boolean hasFirstWord(Row told, String word) {
            return told.hasWord(0, word) && (isBareWord(told) || told.at(WORD) == ' ');
        }

        static boolean isBareWord(Row told) {
            return told.length() == WORD;
        }

        static boolean isGreeting(Row told) {
            return told.at(WORD) == ' '
                && nameEnd(told, WORD + 1, MOST_DOMAIN, DOMAIN_MARKS) == told.length();
        }

        /** The place behind the path that stands behind the words. */
        static int pathEnd(Row told, String words) {
            int start = words.length();
            if (!told.hasWord(0, words) || told.at(start) != '<') {
                return -1;
            }
            int at = nameEnd(told, start + 1, MOST_LOCAL, LOCAL_MARKS);
            if (at < 0 || told.at(at) != '@') {
                return -1;
            }
            int close = nameEnd(told, at + 1, MOST_DOMAIN, DOMAIN_MARKS);
            return close >= 0 && told.at(close) == '>' ? close + 1 : -1;
        }

        /** Whether the address from the place on, part of a path, is one of this host. */
        static boolean isHere(Row told, int from) {
            int at = nameEnd(told, from, MOST_LOCAL_HERE, LOCAL_MARKS);
            return at >= 0 && told.hasWord(at, "@here>");
        }

        /** The largest SIZE from the place on, 0 without one; -1 if something else stands there. */
        static int largestSize(Row told, int from) {
            int largest = 0;
            int i = from;
            for (int round = 0; round < MOST_LINE && i < told.length(); round++) {
                if (told.hasWord(i, BODY)) {
                    i += BODY.length();
                } else if (told.hasWord(i, SIZE)) {
                    int start = i + SIZE.length();
                    i = digitsEnd(told, start);
                    if (i == start || i - start > MOST_DIGITS) {
                        return -1;
                    }
                    largest = Math.max(largest, number(told, start, i));
                } else {
                    return -1;
                }
            }
            return largest;
        }

        /** The end of a local part or a domain: letters, digits, marks, and dots between them. */
        private static int nameEnd(Row told, int from, int most, String marks) {
            // A dot may stand neither first nor behind a dot: the start is like a dot.
            boolean behindDot = true;
            int i = from;
            for (; i < told.length(); i++) {
                int b = told.at(i);
                if (b == '.' && behindDot) {
                    return -1;
                }
                if (b != '.' && !isNameByte(b, marks)) {
                    break;
                }
                behindDot = b == '.';
            }
            return behindDot || i - from > most ? -1 : i;
        }

        private static boolean isNameByte(int b, String marks) {
            return b >= 'A' && b <= 'Z' || b >= 'a' && b <= 'z' || b >= '0' && b <= '9'
                || marks.indexOf((char) b) >= 0;
        }

        private static boolean isDigit(int b) {
            return b >= '0' && b <= '9';
        }

        private static int digitsEnd(Row told, int from) {
            int i = from;
            while (i < told.length() && isDigit(told.at(i))) {
                i++;
            }
            return i;
        }

        private static int number(Row told, int from, int to) {
            int value = 0;
            for (int i = from; i < to; i++) {
                value = value * 10 + told.at(i) - '0';
            }
            return value;
        }
    }
}
