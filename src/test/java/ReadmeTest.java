import java.io.ByteArrayOutputStream;
import java.io.IOException;
import java.io.PrintStream;
import java.net.URL;
import java.net.URLClassLoader;
import java.nio.charset.StandardCharsets;
import java.nio.file.Files;
import java.nio.file.Path;
import java.util.ArrayList;
import java.util.List;
import java.util.regex.Matcher;
import java.util.regex.Pattern;
import java.util.stream.Stream;
import javax.tools.JavaCompiler;
import javax.tools.ToolProvider;

/** What README.md says holds: its calls are answered as it says, and its program prints what it says. */
public final class ReadmeTest {
    private static final Pattern BLOCK = Pattern.compile("^```(\\w+)\n(.*?)^```$", Pattern.MULTILINE | Pattern.DOTALL);
    private static final Pattern CALL = Pattern.compile("(mail\\.\\w+\\([^()]*\\));\\s+// (-?\\w+): .+");
    private static final String MAKE = "MailLines mail = new MailLines();";

    public static void main(String[] args) throws Exception {
        String readme = Files.readString(Path.of("README.md"));
        String calls = null;
        String program = null;
        String printed = null;
        Matcher block = BLOCK.matcher(readme);
        while (block.find()) {
            String told = block.group(2);
            if (block.group(1).equals("java") && told.startsWith(MAKE)) {
                calls = told;
            } else if (block.group(1).equals("java") && told.contains("class Example")) {
                program = told;
            } else if (block.group(1).equals("text") && program != null && printed == null) {
                printed = told;
            }
        }
        if (calls == null || program == null || printed == null) {
            Talk.due("README.md has calls, a program, and what it prints", "not all", "all");
        } else {
            everyCallIsThere(calls);
            Talk.due("what the calls of README.md print", outputOf("ReadmeCalls", checked(calls)), "");
            Talk.due("what the program of README.md prints", outputOf("Example", program), printed);
        }
        namesOfTests(readme);
        Talk.finish();
    }

    private static void everyCallIsThere(String calls) {
        for (String name : new String[] {"send", "reply", "open", "message", "bytes", "count"}) {
            Talk.due("README.md shows " + name, calls.contains("mail." + name + "("), true);
        }
        for (int what = 0; what < 6; what++) {
            Talk.due("README.md shows count(" + what + ")", calls.contains("mail.count(" + what + ")"), true);
        }
    }

    /** The calls as a program that prints those whose answer is not the one in the comment. */
    private static String checked(String calls) {
        StringBuilder all = new StringBuilder("public final class ReadmeCalls {\n"
            + "    static void due(String call, Object got, Object want) {\n"
            + "        if (!got.toString().equals(want.toString())) { System.out.println(call + \" answered \" + got + \", not \" + want); }\n"
            + "    }\n"
            + "    public static void main(String[] args) {\n");
        int checks = 0;
        for (String line : calls.split("\n")) {
            Matcher call = CALL.matcher(line);
            if (call.matches()) {
                all.append(check(call)).append('\n');
                checks++;
            } else {
                Talk.due("a line of README.md's calls", line, line.equals(MAKE) ? MAKE : "");
                all.append(line).append('\n');
            }
        }
        Talk.due("README.md has many calls", checks > 20, true);
        return all.append("    }\n}\n").toString();
    }

    private static String check(Matcher call) {
        return "due(\"" + call.group(1) + "\", " + call.group(1) + ", " + call.group(2) + ");";
    }

    private static String outputOf(String name, String source) throws Exception {
        Path room = Files.createTempDirectory("readme");
        try {
            Path file = room.resolve(name + ".java");
            Files.writeString(file, source);
            JavaCompiler compiler = ToolProvider.getSystemJavaCompiler();
            ByteArrayOutputStream complaints = new ByteArrayOutputStream();
            if (compiler == null || compiler.run(null, complaints, complaints, "--release", "17", "-Xlint:all", "-Werror",
                "-cp", System.getProperty("java.class.path"), "-d", room.toString(), file.toString()) != 0) {
                return "does not compile: " + complaints;
            }
            return printedBy(room, name);
        } finally {
            clear(room);
        }
    }

    private static String printedBy(Path room, String name) throws Exception {
        PrintStream before = System.out;
        ByteArrayOutputStream all = new ByteArrayOutputStream();
        try (URLClassLoader loader = new URLClassLoader(new URL[] {room.toUri().toURL()})) {
            System.setOut(new PrintStream(all, true, StandardCharsets.ISO_8859_1));
            loader.loadClass(name).getMethod("main", String[].class).invoke(null, (Object) new String[0]);
        } finally {
            System.setOut(before);
        }
        return all.toString(StandardCharsets.ISO_8859_1).replace("\r\n", "\n");
    }

    private static void clear(Path room) throws IOException {
        List<Path> files = new ArrayList<>();
        try (Stream<Path> found = Files.list(room)) {
            found.forEach(files::add);
        }
        for (Path file : files) {
            Files.delete(file);
        }
        Files.delete(room);
    }

    /** Each test of the project is told of, and each that is told of is there. */
    private static void namesOfTests(String readme) throws IOException {
        String told = readme.replace("Edge2{Line,Syntax,Order,Sender,Path,Message}Test",
            "Edge2LineTest Edge2SyntaxTest Edge2OrderTest Edge2SenderTest Edge2PathTest Edge2MessageTest");
        Matcher name = Pattern.compile("\\b\\w+Test\\b").matcher(told);
        while (name.find()) {
            Path file = Path.of("src/test/java", name.group() + ".java");
            Talk.due(name.group() + " is there", Files.exists(file), true);
        }
        try (Stream<Path> found = Files.list(Path.of("src/test/java"))) {
            found.map(file -> file.getFileName().toString()).filter(file -> file.endsWith("Test.java"))
                .forEach(file -> Talk.due("README.md tells of " + file,
                    told.matches("(?s).*\\b" + file.replace(".java", "") + "\\b.*"), true));
        }
    }
}
