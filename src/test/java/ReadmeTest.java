import java.io.IOException;
import java.lang.reflect.Method;
import java.lang.reflect.Modifier;
import java.nio.file.Files;
import java.nio.file.Path;
import java.util.List;
import java.util.Set;
import java.util.TreeSet;
import java.util.regex.Matcher;
import java.util.regex.Pattern;
import java.util.stream.Stream;

/** What README.md says of the class and of its tests; run from the top of the checkout. */
public final class ReadmeTest {
    private static final Path TESTS = Path.of("src/test/java");

    /** What README.md says that a line of its example answers: the comment behind it, up to the colon. */
    private static String saidOf(List<String> readme, String code) {
        for (String line : readme) {
            if (line.startsWith(code + ";") && line.contains("// ") && line.contains(":")) {
                return line.substring(line.indexOf("// ") + 3, line.indexOf(':'));
            }
        }
        return "no such line";
    }

    private static void answers(List<String> readme, String code, Object answer) {
        Check.same("README " + code, String.valueOf(answer), saidOf(readme, code));
    }

    /** Answers the example as it is before its undo. */
    private static LaundryService theExample(List<String> readme) {
        Check.same("README the new object", readme.contains("LaundryService service = new LaundryService();"), true);
        LaundryService service = new LaundryService();
        int sock = service.bring(0, true, 3, 1);
        answers(readme, "int sock = service.bring(0, true, 3, 1)", sock);
        answers(readme, "int loaded = service.load(sock, 1)", service.load(sock, 1));
        answers(readme, "float before = service.setTemperature(1, 120)", service.setTemperature(1, 120));
        answers(readme, "int harm = service.damage(1)", service.damage(1));
        answers(readme, "int lost = service.run(1)", service.run(1));
        answers(readme, "char place = service.place(sock)", service.place(sock));
        answers(readme, "float paid = service.paid(0)", service.paid(0));
        return service;
    }

    private static void theExampleUndone(List<String> readme, LaundryService service) {
        answers(readme, "int left = service.undo()", service.undo());
        answers(readme, "char again = service.place(sock)", service.place(0));
        int calls = 0;
        for (String line : readme) {
            calls += line.contains(" = service.") ? 1 : 0;
        }
        Check.same("README no other call in the example", calls, 9);
    }

    /** "This one does what bring, load, setTemperature and run did above". */
    private static void theText(List<String> readme, LaundryService example) {
        String text = "sock 0 3 1;load 0 1;heat 1 60;run 1";
        Check.same("README the text", readme.contains("    " + text), true);
        LaundryService s = new LaundryService();
        Check.same("README the text's commands", Check.commands(s, text), 4);
        Check.same("README the text's deeds", Look.state(s), Look.state(example));
    }

    /** Each command of the table is well-formed, and carried out one after the other. */
    private static void theCommands(List<String> readme) {
        Set<String> words = new TreeSet<>();
        LaundryService s = new LaundryService();
        for (String line : readme) {
            Matcher command = Pattern.compile("`(sock|shirt|load|out|heat|run)( [0-9]+)+`").matcher(line);
            while (line.startsWith("|") && command.find()) {
                words.add(command.group(1));
                if (command.group(1).equals("run")) {
                    s.load(0, 1);
                }
                String text = command.group().replace("`", "");
                Check.same("README " + text, Check.commands(s, text), 1);
            }
        }
        Check.same("README the commands", words.size(), 6);
    }

    private static Set<String> between(String text, String form) {
        Set<String> found = new TreeSet<>();
        Matcher matcher = Pattern.compile(form).matcher(text);
        while (matcher.find()) {
            found.add(matcher.group(1));
        }
        return found;
    }

    /** The table of the calls names each method of the face, and nothing else. */
    private static void theCalls(String readme) {
        Set<String> due = new TreeSet<>();
        for (Method method : LaundryService.class.getDeclaredMethods()) {
            if (Modifier.isPublic(method.getModifiers())) {
                due.add(method.getName());
            }
        }
        int start = readme.indexOf("### The calls");
        int end = readme.indexOf("A call that is refused");
        Check.same("README the table", 0 <= start && start < end, true);
        Check.same("README the calls", between(readme.substring(start, end), "`(\\w+)`"), due);
    }

    private static void theTests(String readme) throws IOException {
        Set<String> due = new TreeSet<>();
        try (Stream<Path> files = Files.list(TESTS)) {
            for (Path file : files.toList()) {
                due.add(file.getFileName().toString().replace(".java", ""));
            }
        }
        Set<String> named = between(readme, "`(\\w+Test|Check|Look)`");
        Check.same("README the tests", named, due);
    }

    private static void theFiles(String readme) {
        int start = readme.indexOf("- `src");
        int end = readme.indexOf("## Use");
        Check.same("README the list of files", 0 <= start && start < end, true);
        for (String file : between(readme.substring(start, end), "- `([^`]+)`")) {
            Check.same("README " + file, Files.exists(Path.of(file)), true);
        }
    }

    public static void main(String[] args) throws IOException {
        Path file = Path.of("README.md");
        List<String> lines = Files.readAllLines(file);
        String whole = Files.readString(file);
        LaundryService example = theExample(lines);
        theText(lines, example);
        theExampleUndone(lines, example);
        theCommands(lines);
        theCalls(whole);
        theTests(whole);
        theFiles(whole);
        Check.end();
    }
}
