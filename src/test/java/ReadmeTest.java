import java.io.File;
import java.lang.reflect.Method;
import java.lang.reflect.Modifier;
import java.nio.file.Files;
import java.nio.file.Path;
import java.util.HashMap;
import java.util.Map;
import java.util.regex.Matcher;
import java.util.regex.Pattern;

/** README.md's examples are called line by line, and each answers what its line says; no call or test is left out. */
final class ReadmeTest {
    private static final Pattern LINE = Pattern.compile(
            "(?:int (\\w+) = )?press\\.(\\w+)\\(([^)]*)\\); +// (-?\\d+|true|false)(?::.*)?");
    private static final String MAKING = "OilPress press = new OilPress();";

    private final Map<String, Integer> known = new HashMap<>();
    private final OilPress press = new OilPress();

    public static void main(String[] args) throws Exception {
        Check c = new Check();
        String text = Files.readString(Path.of("README.md"));
        c.part("README.md's examples");
        new ReadmeTest().examples(c, text);
        c.part("README.md names all");
        for (Method one : OilPress.class.getDeclaredMethods()) {
            if (Modifier.isPublic(one.getModifiers())) {
                c.due(one.getName(), text.contains("`" + one.getName() + "`"), true);
            }
        }
        for (String file : new File("src/test/java").list()) {
            c.due(file, text.contains("`" + file.replace(".java", "") + "`"), true);
        }
        c.end();
    }

    private void examples(Check c, String text) throws ReflectiveOperationException {
        known.put("OilPress.NONE", OilPress.NONE);
        boolean isCode = false;
        int made = 0;
        int called = 0;
        for (String line : text.split("\n")) {
            if (line.startsWith("```")) {
                isCode = line.equals("```java");
            } else if (isCode && line.equals(MAKING)) {
                made++;
            } else if (isCode) {
                Matcher m = LINE.matcher(line);
                c.due("a call with its answer: " + line, m.matches(), true);
                called += m.matches() && isAsSaid(c, m) ? 1 : 0;
            }
        }
        c.due("one object is made", made, 1);
        c.due("calls as their lines say: " + called, called > 20, true);
    }

    private boolean isAsSaid(Check c, Matcher line) throws ReflectiveOperationException {
        String[] words = line.group(3).isEmpty() ? new String[0] : line.group(3).split(", ");
        Class<?>[] types = new Class<?>[words.length];
        Object[] values = new Object[words.length];
        for (int i = 0; i < words.length; i++) {
            boolean isBoolean = words[i].equals("true") || words[i].equals("false");
            types[i] = isBoolean ? boolean.class : int.class;
            values[i] = isBoolean ? (Object) words[i].equals("true") : number(words[i]);
        }
        Object answer = OilPress.class.getMethod(line.group(2), types).invoke(press, values);
        if (line.group(1) != null) {
            known.put(line.group(1), (Integer) answer);
        }
        boolean is = answer.toString().equals(line.group(4));
        c.due(line.group() + " answered " + answer, is, true);
        return is;
    }

    private Object number(String word) {
        Integer of = known.get(word);
        return of != null ? of : Integer.valueOf(word);
    }
}
