import java.util.ArrayList;
import java.util.List;
import java.util.regex.Matcher;
import java.util.regex.Pattern;

/**
 * The document told a second time, with texts and patterns instead of rows of
 * bytes, so that a slip in the one does not stand in the other as well.
 */
final class Model {
    private static final String LOCAL = "(?=[^@]{1,40}@)[\\w!#$%&'*+\\-/=?^`{|}~]+(?:\\.[\\w!#$%&'*+\\-/=?^`{|}~]+)*";
    private static final String DOMAIN = "(?=[A-Za-z0-9.\\-]{1,60}(?:>|$))[A-Za-z0-9\\-]+(?:\\.[A-Za-z0-9\\-]+)*";
    private static final Pattern LHLO = pattern("LHLO " + DOMAIN);
    private static final Pattern MAIL =
        pattern("MAIL FROM:<(|" + LOCAL + "@" + DOMAIN + ")>((?: SIZE=[0-9]{1,9}| BODY=8BITMIME)*)");
    private static final Pattern RCPT = pattern("RCPT TO:<((" + LOCAL + ")@(" + DOMAIN + "))>");

    private record Letter(String text, String sender, List<String> recipients) { }

    private final List<Letter> letters = new ArrayList<>();
    private String answers = "";
    private boolean session = true;
    private boolean greeted;
    private boolean data;
    private String sender;
    private List<String> recipients = new ArrayList<>();
    /** All bytes since the last line's end, or since DATA's. */
    private String raw = "";

    private static Pattern pattern(String told) {
        return Pattern.compile(told, Pattern.CASE_INSENSITIVE | Pattern.DOTALL);
    }

    boolean send(long v, int n) {
        if (n < 1 || n > 8 || !session) {
            return false;
        }
        for (int i = n; i > 0; i--) {
            if (session) {
                raw += (char) (v >>> (8 * i - 8) & 255);
                if (raw.endsWith("\r\n")) {
                    wholeLine();
                }
            }
        }
        return true;
    }

    private void wholeLine() {
        if (!data) {
            String line = raw.substring(0, raw.length() - 2);
            raw = "";
            tell(command(line));
        } else if (raw.equals(".\r\n") || raw.endsWith("\r\n.\r\n")) {
            String text = undotted(raw.substring(0, raw.length() - 3));
            raw = "";
            data = false;
            handOver(text);
        }
    }

    private static String undotted(String told) {
        StringBuilder all = new StringBuilder();
        for (String line : told.split("(?<=\r\n)")) {
            all.append(line.startsWith(".") ? line.substring(1) : line);
        }
        return all.toString();
    }

    private void handOver(String text) {
        boolean full = letters.size() == 10;
        for (String recipient : recipients) {
            tell(text.length() > 200 ? "552 big" : full ? "452 full" : "250 <" + recipient + ">");
        }
        if (text.length() <= 200 && !full) {
            letters.add(new Letter(text, sender, recipients));
        }
        forget();
    }

    private void forget() {
        sender = null;
        recipients = new ArrayList<>();
    }

    private void tell(String answer) {
        String all = answers + answer + "\r\n";
        answers = all.substring(0, Math.min(400, all.length()));
    }

    private String command(String line) {
        if (line.length() > 100) {
            return "500 too long";
        }
        int blank = line.indexOf(' ');
        String word = (blank < 0 ? line : line.substring(0, blank)).toUpperCase(java.util.Locale.ROOT);
        if (!line.chars().allMatch(c -> c < 128)) {
            word = word.chars().allMatch(c -> c < 128) ? word : "?";
        }
        if (!List.of("LHLO", "MAIL", "RCPT", "DATA", "RSET", "NOOP", "QUIT").contains(word)) {
            return "500 unknown";
        }
        if (!greeted && List.of("MAIL", "RCPT", "DATA").contains(word)) {
            return "503 order";
        }
        Matcher mail = MAIL.matcher(line);
        Matcher rcpt = RCPT.matcher(line);
        switch (word) {
            case "LHLO":
                if (!LHLO.matcher(line).matches()) {
                    return "501 syntax";
                }
                greeted = true;
                forget();
                return "250 here";
            case "MAIL":
                return mail.matches() ? mail(mail) : "501 syntax";
            case "RCPT":
                return rcpt.matches() ? rcpt(rcpt) : "501 syntax";
            default:
                return line.length() == 4 ? bare(word) : "501 syntax";
        }
    }

    private String mail(Matcher told) {
        if (sender != null) {
            return "503 order";
        }
        for (String parameter : told.group(2).split(" ")) {
            if (parameter.toUpperCase(java.util.Locale.ROOT).startsWith("SIZE=") && Long.parseLong(parameter.substring(5)) > 200) {
                return "552 big";
            }
        }
        sender = told.group(1);
        return "250 sender";
    }

    private String rcpt(Matcher told) {
        if (sender == null) {
            return "503 order";
        }
        if (!told.group(3).equalsIgnoreCase("here") || told.group(2).length() > 8) {
            return "550 none";
        }
        if (recipients.size() == 4) {
            return "452 many";
        }
        recipients.add(told.group(1));
        return "250 recipient";
    }

    private String bare(String word) {
        switch (word) {
            case "DATA":
                data = !recipients.isEmpty();
                return data ? "354 go" : "503 order";
            case "RSET":
                forget();
                return "250 ok";
            case "QUIT":
                session = false;
                return "221 bye";
            default:
                return "250 ok";
        }
    }

    long reply() {
        int n = Math.min(7, answers.length());
        long word = (long) n << 56 | eight(answers.substring(0, n), 0) >>> 8;
        answers = answers.substring(n);
        return word;
    }

    boolean open() {
        boolean was = session;
        session = true;
        greeted = false;
        data = false;
        raw = "";
        forget();
        return was;
    }

    int message(int k, int what) {
        if (what == 1) {
            return k >= 0 && k < letters.size() ? letters.get(k).recipients().size() : -1;
        }
        String part = what < 0 || what > 3 ? null : part(k, what == 0 ? 0 : what - 1);
        return part == null ? -1 : part.length();
    }

    long bytes(int k, int part, int i) {
        String told = part(k, part);
        return told == null || i < 0 ? -1 : eight(told, i);
    }

    private String part(int k, int part) {
        if (k < 0 || k >= letters.size() || part < 0 || part > 2) {
            return null;
        }
        Letter letter = letters.get(k);
        return part == 0 ? letter.text() : part == 1 ? letter.sender() : letter.recipients().get(0);
    }

    private static long eight(String told, int i) {
        long word = 0;
        for (long place = i; place < i + 8L; place++) {
            word = word << 8 | (place < told.length() ? told.charAt((int) place) : 0);
        }
        return word;
    }

    int count(int what) {
        switch (what) {
            case 0:
                return letters.size();
            case 1:
                return session ? 1 : 0;
            case 2:
                return data ? 1 : 0;
            case 3:
                return recipients.size();
            case 4:
                return Math.min(202, data ? undotted(raw).length() : raw.length());
            case 5:
                return answers.length();
            default:
                return -1;
        }
    }
}
