import java.io.IOException;
import java.lang.reflect.Field;
import java.lang.reflect.Method;
import java.lang.reflect.Modifier;
import java.nio.file.DirectoryStream;
import java.nio.file.Files;
import java.nio.file.Path;
import java.util.List;
import java.util.Map;
import java.util.Set;
import java.util.TreeMap;
import java.util.TreeSet;
import java.util.regex.Matcher;
import java.util.regex.Pattern;

/** What README.md shows is right: its examples, its calls, settings and codes, and its tests. */
public final class ReadmeTest {
    private static final Path README = Path.of("README.md");
    private static final Path TESTS = Path.of("src/test/java");
    private static final String NEW_OBJECT = "TapOffice office = new TapOffice();";
    private static final Pattern EXAMPLE = Pattern.compile("office\\.(\\w+)\\((.*)\\);\\s*// (-?\\d+|[A-Z]+)(:.*)?");
    private static final Pattern CALL = Pattern.compile("\\| `(\\w+)\\(([^)]*)\\)` \\|.*");
    private static final Pattern CODE = Pattern.compile("\\| `([A-Z]+)` \\| (-\\d+) \\|.*");
    private static final Pattern SETTING = Pattern.compile("\\| (\\d) \\| [A-Z ]+ \\| 0 \\.\\. (\\d+) \\| \\d+ \\|");
    private static final Pattern TEST = Pattern.compile("\\b\\w+Test\\b");

    private final Checks checks = new Checks();
    private final List<String> lines;
    private final Map<String, Method> calls = new TreeMap<>();
    private final Map<String, Integer> codes = new TreeMap<>();

    private ReadmeTest(List<String> lines) throws IllegalAccessException {
        this.lines = lines;
        for (Method method : TapOffice.class.getDeclaredMethods()) {
            if (Modifier.isPublic(method.getModifiers())) {
                calls.put(method.getName(), method);
            }
        }
        for (Field field : TapOffice.class.getDeclaredFields()) {
            if (Modifier.isPublic(field.getModifiers())) {
                codes.put(field.getName(), field.getInt(null));
            }
        }
    }

    public static void main(String[] args) throws IOException, ReflectiveOperationException {
        ReadmeTest test = new ReadmeTest(Files.readAllLines(README));
        test.examplesAnswerAsShown();
        test.everyCallIsTold();
        test.everyCodeIsTold();
        test.everySettingIsTold();
        test.everyTestIsNamed();
        test.howItIsUsedIsTold();
        test.checks.finish();
    }

    private void examplesAnswerAsShown() throws ReflectiveOperationException {
        Set<String> shown = new TreeSet<>();
        TapOffice office = new TapOffice();
        boolean inExample = false;
        for (String line : lines) {
            if (line.startsWith("```")) {
                inExample = line.equals("```java");
            } else if (inExample && line.equals(NEW_OBJECT)) {
                office = new TapOffice();
            } else if (inExample) {
                shown.add(answersAsShown(office, line));
            }
        }
        alike("calls in the examples", shown, calls.keySet());
    }

    private String answersAsShown(TapOffice office, String line) throws ReflectiveOperationException {
        Matcher row = EXAMPLE.matcher(line);
        if (!row.matches() || !calls.containsKey(row.group(1))) {
            return "not a call with its answer: " + line;
        }
        Method call = calls.get(row.group(1));
        int got = (int) call.invoke(office, arguments(call, row.group(2)));
        String want = row.group(3);
        boolean named = codes.containsKey(want);
        if (!named && !want.matches("-?\\d+")) {
            return "no such code: " + line;
        }
        checks.due(line, got, named ? codes.get(want) : Integer.parseInt(want));
        return call.getName();
    }

    private static Object[] arguments(Method call, String text) {
        String[] parts = text.split(", ");
        Object[] values = new Object[parts.length];
        for (int i = 0; i < parts.length; i++) {
            boolean truth = i < call.getParameterCount() && call.getParameterTypes()[i] == boolean.class;
            values[i] = truth ? (Object) Boolean.valueOf(parts[i]) : (Object) Integer.valueOf(parts[i]);
        }
        return values;
    }

    private void everyCallIsTold() {
        Set<String> told = new TreeSet<>();
        for (String line : lines) {
            Matcher row = CALL.matcher(line);
            if (row.matches()) {
                told.add(row.group(1) + "(" + row.group(2).replaceAll(" \\w+(,|$)", "$1") + ")");
            }
        }
        Set<String> due = new TreeSet<>();
        for (Method call : calls.values()) {
            StringBuilder types = new StringBuilder();
            for (Class<?> type : call.getParameterTypes()) {
                types.append(types.length() == 0 ? "" : ", ").append(type.getName());
            }
            due.add(call.getName() + "(" + types + ")");
        }
        alike("calls in the table", told, due);
    }

    private void everyCodeIsTold() {
        Map<String, Integer> told = new TreeMap<>();
        for (String line : lines) {
            Matcher row = CODE.matcher(line);
            if (row.matches()) {
                told.put(row.group(1), Integer.valueOf(row.group(2)));
            }
        }
        alike("codes in the table", told, codes);
    }

    private void everySettingIsTold() {
        TapOffice office = new TapOffice();
        int told = 0;
        for (String line : lines) {
            Matcher row = SETTING.matcher(line);
            if (row.matches()) {
                int setting = Integer.parseInt(row.group(1));
                int most = Integer.parseInt(row.group(2));
                checks.due("number of the setting: " + line, setting, told);
                checks.due("least value: " + line, office.set(setting, 0), 0);
                checks.due("most value: " + line, office.set(setting, most), 0);
                checks.due("a value above: " + line, office.set(setting, most + 1), TapOffice.REFUSED);
                told++;
            }
        }
        checks.due("settings in the table", told, 5);
    }

    private void everyTestIsNamed() throws IOException {
        Set<String> told = new TreeSet<>();
        for (String line : lines) {
            Matcher name = TEST.matcher(line.startsWith("|") ? line : "");
            while (name.find()) {
                told.add(name.group());
            }
        }
        Set<String> due = new TreeSet<>();
        try (DirectoryStream<Path> files = Files.newDirectoryStream(TESTS, "*Test.java")) {
            for (Path file : files) {
                due.add(file.getFileName().toString().replace(".java", ""));
            }
        }
        alike("tests in the tables", told, due);
    }

    private void howItIsUsedIsTold() {
        String text = String.join(" ", lines);
        checks.due("whether it tells of 512 calls", text.contains("at most 512 calls") ? 1 : 0, 1);
        checks.due("whether it tells how the tests are run", lines.contains(".ci/run") ? 1 : 0, 1);
    }

    private void alike(String what, Object told, Object due) {
        if (!told.equals(due)) {
            System.out.println(what + ": " + told);
        }
        checks.due(what + ", alike with " + due, told.equals(due) ? 1 : 0, 1);
    }
}
