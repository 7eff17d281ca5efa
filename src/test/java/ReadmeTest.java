import java.lang.reflect.Method;
import java.lang.reflect.Modifier;
import java.nio.file.DirectoryStream;
import java.nio.file.Files;
import java.nio.file.Path;
import java.util.HashMap;
import java.util.HashSet;
import java.util.List;
import java.util.Map;
import java.util.Set;
import java.util.regex.Matcher;
import java.util.regex.Pattern;

/** What README.md tells has to be so: each answer of its examples, all calls, all constants, all tests. */
public final class ReadmeTest {
    private static final Path PAGE = Path.of("README.md");
    private static final Pattern CALL = Pattern.compile("toy\\.(\\w+)\\((.*)\\);\\s*// (-?\\d+)(:.*)?");
    private static final Pattern CONSTANT = Pattern.compile("\\| `([A-Z]+)` \\| (-?\\d+) \\|.*");
    private static final String MADE = "BallInCup toy = new BallInCup();";
    private static int wrong = 0;
    private static int answers = 0;

    public static void main(String[] args) throws Exception {
        List<String> lines = Files.readAllLines(PAGE);
        Map<String, Method> face = face();
        Set<String> asked = examples(lines, face);
        must(asked.equals(face.keySet()), "each call has an example: " + asked);
        constants(lines);
        tests(String.join("\n", lines));
        must(answers > 60, "the examples are found");
        System.out.println(answers + " answers of README.md, " + wrong + " things not as due");
        if (wrong != 0) {
            System.exit(1);
        }
    }

    private static void must(boolean holds, String what) {
        if (!holds) {
            wrong++;
            System.out.println("not as due: " + what);
        }
    }

    private static Map<String, Method> face() {
        Map<String, Method> face = new HashMap<>();
        for (Method m : BallInCup.class.getDeclaredMethods()) {
            if (Modifier.isPublic(m.getModifiers())) {
                face.put(m.getName(), m);
            }
        }
        return face;
    }

    /** Asks every line of the Java examples; a line that is no call with its answer is not as due. */
    private static Set<String> examples(List<String> lines, Map<String, Method> face) throws Exception {
        Set<String> asked = new HashSet<>();
        BallInCup toy = null;
        boolean isJava = false;
        for (String line : lines) {
            if (line.startsWith("```")) {
                isJava = line.equals("```java");
                toy = null;
            } else if (isJava && line.equals(MADE)) {
                toy = new BallInCup();
            } else if (isJava) {
                Matcher m = CALL.matcher(line);
                boolean isCall = toy != null && m.matches() && face.containsKey(m.group(1));
                must(isCall, "a call with its answer: " + line);
                if (isCall) {
                    asked.add(m.group(1));
                    ask(toy, face.get(m.group(1)), m.group(2), Integer.parseInt(m.group(3)), line);
                }
            }
        }
        return asked;
    }

    private static void ask(BallInCup toy, Method call, String told, int due, String line) throws Exception {
        String[] words = told.isEmpty() ? new String[0] : told.split(", ");
        Class<?>[] types = call.getParameterTypes();
        must(words.length == types.length, "so many arguments: " + line);
        if (words.length != types.length) {
            return;
        }
        Object[] arguments = new Object[types.length];
        for (int i = 0; i < types.length; i++) {
            arguments[i] = types[i] == int.class ? (Object) Integer.decode(words[i])
                : types[i] == long.class ? (Object) Long.decode(words[i].replace("L", ""))
                : (Object) Boolean.valueOf(words[i]);
        }
        int answer = (int) call.invoke(toy, arguments);
        answers++;
        must(answer == due, line + " answered " + answer);
    }

    private static void constants(List<String> lines) throws Exception {
        int found = 0;
        for (String line : lines) {
            Matcher m = CONSTANT.matcher(line);
            if (m.matches()) {
                found++;
                int value = BallInCup.class.getField(m.group(1)).getInt(null);
                must(value == Integer.parseInt(m.group(2)), line);
            }
        }
        must(found == 8, "all eight refusals");
    }

    private static void tests(String page) throws Exception {
        must(page.contains("\n.ci/run\n"), "how to run the tests");
        try (DirectoryStream<Path> files = Files.newDirectoryStream(Path.of("src/test/java"), "*.java")) {
            for (Path file : files) {
                String name = file.getFileName().toString().replace(".java", "");
                must(page.contains("- `" + name + "`: "), "what " + name + " is for");
            }
        }
    }
}
