import java.io.IOException;
import java.lang.reflect.Method;
import java.lang.reflect.Modifier;
import java.nio.file.Files;
import java.nio.file.Path;
import java.util.ArrayList;
import java.util.List;
import java.util.regex.Matcher;
import java.util.regex.Pattern;
import java.util.stream.Stream;

/** What README.md says is so: its example's answers, its list of calls, its list of tests. */
final class ReadmeTest {
    private static final Pattern TEXT = Pattern.compile("String text = \"([^\"]*)\";");
    private static final Pattern CALL = Pattern.compile("^court\\.(\\w+)\\(([^)]*)\\);\\s*// (-?\\d+):.*$");
    private static final Pattern ROW = Pattern.compile("^\\| ((?:`\\w+` )+)\\|.*$");

    public static void main(String[] args) throws IOException, ReflectiveOperationException {
        List<String> lines = Files.readAllLines(Path.of("README.md"));
        example(lines);
        calls(lines);
        tests(lines);
        Check.finish();
    }

    private static void example(List<String> lines) throws ReflectiveOperationException {
        BathingCourt court = new BathingCourt();
        int found = 0;
        for (String line : lines) {
            Matcher text = TEXT.matcher(line);
            if (text.find()) {
                Check.feed(court, text.group(1));
            }
            Matcher call = CALL.matcher(line);
            if (call.matches()) {
                found++;
                int answer = answer(court, call.group(1), call.group(2));
                Check.due("README's " + call.group(1) + "(" + call.group(2) + ")", answer, Integer.parseInt(call.group(3)));
            }
        }
        Check.due("README's calls", found, 6);
    }

    private static int answer(BathingCourt court, String name, String list) throws ReflectiveOperationException {
        String[] words = list.isBlank() ? new String[0] : list.split(", ");
        Object[] numbers = new Object[words.length];
        Class<?>[] types = new Class<?>[words.length];
        for (int i = 0; i < words.length; i++) {
            numbers[i] = Integer.parseInt(words[i]);
            types[i] = int.class;
        }
        return (int) BathingCourt.class.getMethod(name, types).invoke(court, numbers);
    }

    private static void calls(List<String> lines) {
        List<String> face = new ArrayList<>();
        for (Method m : BathingCourt.class.getDeclaredMethods()) {
            if (Modifier.isPublic(m.getModifiers())) {
                face.add(m.getName());
            }
        }
        Check.due("README's list of calls", sorted(rows(lines, false)), sorted(face));
    }

    private static void tests(List<String> lines) throws IOException {
        List<String> files = new ArrayList<>();
        try (Stream<Path> all = Files.list(Path.of("src/test/java"))) {
            all.map(p -> p.getFileName().toString()).filter(n -> n.endsWith("Test.java"))
                .forEach(n -> files.add(n.replace(".java", "")));
        }
        Check.due("README's list of tests", sorted(rows(lines, true)), sorted(files));
    }

    /** The names in the first column of the table of tests, or of the table of calls. */
    private static List<String> rows(List<String> lines, boolean ofTests) {
        List<String> names = new ArrayList<>();
        for (String line : lines) {
            Matcher row = ROW.matcher(line);
            if (row.matches()) {
                for (String name : row.group(1).replace("`", "").trim().split(" ")) {
                    if (name.endsWith("Test") == ofTests) {
                        names.add(name);
                    }
                }
            }
        }
        return names;
    }

    private static String sorted(List<String> names) {
        return names.stream().sorted().toList().toString();
    }
}
