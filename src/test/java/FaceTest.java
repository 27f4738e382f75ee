import java.lang.reflect.Constructor;
import java.lang.reflect.Field;
import java.lang.reflect.Member;
import java.lang.reflect.Method;
import java.lang.reflect.Modifier;
import java.nio.file.Files;
import java.nio.file.Path;
import java.util.Arrays;
import java.util.TreeSet;
import java.util.regex.Matcher;
import java.util.regex.Pattern;

/** The public face and those rules of ../shared/LANGUAGE.md that can be read from the class or its text. */
final class FaceTest {
    private static final String FACE = "at(int,int)int balance()int count(int)int draw(int,int)int fetch(int)int "
            + "fresh(int)boolean gave(int,int)boolean grove(int,int)int hand(int,int,int)int held(int,int)int "
            + "keep(int)boolean lend(int,int,int)int lot(int,int)int mill(int,int,int)boolean owes(int,int)int "
            + "pay(int)int plan(int)int planned(int)int pour(int,int)int press(int)int put(int,int)int "
            + "sample(int,int,int)boolean scale(int)boolean share(int)int take(int)boolean told(int,int)int "
            + "vat(int,boolean,int)int wait(int)int wash(int)boolean weigh(int,int)int wish(int,boolean)boolean";
    private static final String[] NOT_USED = {"throw", "throws", "try", "catch", "synchronized", "assert", "import",
            "package", "->", "::", "float", "double", "Exact", "System", "Object", "native", "var", "equals", "hashCode",
            "toString"};

    public static void main(String[] args) throws Exception {
        Check c = new Check();
        c.part("face");
        c.due("NONE", OilPress.NONE, -1);
        c.due("public and final", Modifier.isPublic(OilPress.class.getModifiers())
                && Modifier.isFinal(OilPress.class.getModifiers()), true);
        TreeSet<String> names = new TreeSet<>();
        TreeSet<String> found = new TreeSet<>();
        for (Method m : OilPress.class.getDeclaredMethods()) {
            if (Modifier.isPublic(m.getModifiers())) {
                names.add(m.getName());
                found.add(signature(m));
            }
        }
        c.due("the methods " + found, found.equals(new TreeSet<>(Arrays.asList(FACE.split(" ")))), true);
        privateBesides(c, names);
        fields(c);
        inside(c);
        words(c);
        methods(c);
        c.end();
    }

    private static String signature(Method m) {
        StringBuilder text = new StringBuilder(m.getName()).append('(');
        for (Class<?> type : m.getParameterTypes()) {
            text.append(text.charAt(text.length() - 1) == '(' ? "" : ",").append(type.getSimpleName());
        }
        return text.append(')').append(m.getReturnType().getSimpleName()).toString();
    }

    private static void privateBesides(Check c, TreeSet<String> names) {
        for (Method m : OilPress.class.getDeclaredMethods()) {
            if (!Modifier.isPublic(m.getModifiers())) {
                c.due("private is " + m, Modifier.isPrivate(m.getModifiers()) && !names.contains(m.getName()), true);
            }
        }
        Constructor<?>[] made = OilPress.class.getDeclaredConstructors();
        c.due("constructors", made.length, 1);
        c.due("constructor", Modifier.isPublic(made[0].getModifiers()) && made[0].getParameterCount() == 0, true);
    }

    private static void fields(Check c) {
        for (Field f : OilPress.class.getDeclaredFields()) {
            c.due("public is " + f, Modifier.isPublic(f.getModifiers()), f.getName().equals("NONE"));
            c.due("private is " + f, Modifier.isPrivate(f.getModifiers()), !f.getName().equals("NONE"));
            staticIsFinal(c, f, f.getModifiers());
        }
        c.due("at most 20 fields", ownFields(OilPress.class) <= 20, true);
    }

    private static long ownFields(Class<?> of) {
        return Arrays.stream(of.getDeclaredFields()).filter(f -> !Modifier.isStatic(f.getModifiers())).count();
    }

    private static void staticIsFinal(Check c, Member m, int how) {
        c.due("static is final " + m, !Modifier.isStatic(how) || Modifier.isFinal(how), true);
    }

    private static void inside(Check c) {
        Class<?>[] inside = OilPress.class.getDeclaredClasses();
        c.due("at most 12 classes", inside.length < 12, true);
        for (Class<?> one : inside) {
            c.due("static " + one, Modifier.isStatic(one.getModifiers()), true);
            c.due("not public " + one, Modifier.isPublic(one.getModifiers()), false);
            for (Field f : one.getDeclaredFields()) {
                staticIsFinal(c, f, f.getModifiers());
            }
            for (Method m : one.getDeclaredMethods()) {
                c.due("at most 7 parameters " + m, m.getParameterCount() <= 7, true);
            }
            c.due("at most 20 fields " + one, ownFields(one) <= 20, true);
        }
    }

    private static String text() throws Exception {
        return Files.readString(Path.of("src/main/java/OilPress.java"));
    }

    private static String code() throws Exception {
        return text().replaceAll("(?s)/\\*.*?\\*/", "").replaceAll("//.*", "");
    }

    private static void words(Check c) throws Exception {
        String code = code();
        for (String word : NOT_USED) {
            String edge = Character.isLetter(word.charAt(0)) ? "\\b" : "";
            boolean is = Pattern.compile(edge + Pattern.quote(word) + edge).matcher(code).find();
            c.due("word " + word, is, false);
        }
        c.due("signs 1 to 127", text().chars().allMatch(s -> s >= 1 && s <= 127), true);
    }

    /** Methods are short; what a call makes lives in one room for all calls, so that few of them make an object. */
    private static void methods(Check c) throws Exception {
        Pattern head = Pattern.compile("^( {4}| {8})(?=\\w)[\\w.\\[\\] ]*?(\\w+)\\(.*\\) \\{$");
        TreeSet<String> making = new TreeSet<>();
        String name = "";
        String end = "";
        int length = 0;
        int found = 0;
        for (String line : code().split("\n")) {
            Matcher m = head.matcher(line);
            if (end.isEmpty() && m.matches()) {
                name = m.group(2);
                end = m.group(1) + "}";
                length = 0;
                found++;
            }
            length++;
            if (!end.isEmpty() && line.matches(".*\\bnew\\b.*")) {
                making.add(name);
            }
            if (!end.isEmpty() && line.equals(end)) {
                c.due("at most 60 lines " + name, length <= 60, true);
                end = "";
            }
        }
        c.due("methods that were found: " + found, found > 80, true);
        c.due("objects are made in " + making, making.equals(new TreeSet<>(Arrays.asList("OilPress", "grove", "lot",
                "vat"))), true);
    }
}
