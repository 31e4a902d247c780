import java.io.IOException;
import java.lang.reflect.Constructor;
import java.lang.reflect.Field;
import java.lang.reflect.Method;
import java.lang.reflect.Modifier;
import java.nio.file.Files;
import java.nio.file.Path;
import java.util.ArrayList;
import java.util.Arrays;
import java.util.List;
import java.util.TreeSet;
import java.util.regex.Matcher;
import java.util.regex.Pattern;

/** The face of the class, and those rules of LANGUAGE.md that can be looked up in its file. */
public final class LanguageTest {
    private static final String[] FACE = {
        "int feed(int)", "int bar()", "int thing(int,int,int)", "int of(int,int)", "int row(int,int,int)",
        "int set(int,int,int)", "int lose(int,boolean)", "int wind(int,int)", "int move(int)",
        "int carry(int,boolean)", "int told(int)", "int pass(int)", "int on(int,int)", "int when(int)",
        "int order(int,int)", "int blows(int)", "int stop(int)", "int see(int,int,boolean)", "int drifts(int)",
        "int firm(int,int)", "long power(int,int)", "long odds(int,int)", "long mean(int)", "int plan(int,int)",
        "int done(int)", "int book(int,int)", "int looked()", "int act(int,int,int)", "int trace(int)",
        "int as(int,int)", "int image()", "int undo()", "int count(int)"
    };
    private static final String[] WORDS = {
        "throw", "throws", "try", "catch", "finally", "synchronized", "assert", "import", "package", "protected",
        "volatile", "native", "transient", "yield", "var", "NaN"
    };
    private static final String[] SIGNS = {"->", "::", "Exact(", "+ \"", "\" +", "System.out", "System.err"};
    private static final Path FILE = Path.of("src/main/java/FlotsamQuorum.java");
    private static final int MOST_LINES = 60;
    private static final int MOST_CLASSES = 12;
    private static final int MOST_FIELDS = 20;
    private static final int MOST_PARAMETERS = 7;

    private static final List<String> faults = new ArrayList<>();

    public static void main(String[] args) throws IOException {
        face();
        classes();
        String source = Files.readString(FILE);
        signs(source);
        words(withoutComments(source));
        for (String fault : faults) {
            System.out.println(fault);
        }
        System.out.println("LanguageTest: " + faults.size() + " faults");
        if (!faults.isEmpty()) {
            System.exit(1);
        }
    }

    private static void must(boolean is, String what) {
        if (!is) {
            faults.add("not so: " + what);
        }
    }

    private static void face() {
        Class<?> c = FlotsamQuorum.class;
        must(Modifier.isPublic(c.getModifiers()) && Modifier.isFinal(c.getModifiers()), "public final class");
        TreeSet<String> is = new TreeSet<>();
        TreeSet<String> names = new TreeSet<>();
        for (Method m : c.getDeclaredMethods()) {
            if (!Modifier.isPrivate(m.getModifiers())) {
                must(m.getModifiers() == Modifier.PUBLIC, m.getName() + " is public alone");
                StringBuilder text = new StringBuilder(m.getReturnType() + " " + m.getName() + "(");
                for (Class<?> p : m.getParameterTypes()) {
                    text.append(text.toString().endsWith("(") ? "" : ",").append(p);
                }
                is.add(text.append(")").toString());
                names.add(m.getName());
            }
        }
        must(is.equals(new TreeSet<>(Arrays.asList(FACE))), "the face's methods, not " + is);
        for (Class<?> own : all()) {
            for (Method m : own.getDeclaredMethods()) {
                boolean isOfFace = own == c && Modifier.isPublic(m.getModifiers());
                must(isOfFace || !names.contains(m.getName()), m + " bears a public name");
            }
        }
        Constructor<?>[] made = c.getDeclaredConstructors();
        must(made.length == 1 && made[0].getModifiers() == Modifier.PUBLIC && made[0].getParameterCount() == 0,
            "one public constructor");
        TreeSet<String> constants = new TreeSet<>();
        for (Field f : c.getDeclaredFields()) {
            if (!Modifier.isPrivate(f.getModifiers())) {
                constants.add(Modifier.toString(f.getModifiers()) + " " + f.getType() + " " + f.getName());
            }
        }
        String open = "public static final ";
        must(constants.equals(new TreeSet<>(Arrays.asList(open + "int NONE", open + "int BAD", open + "int STATE",
            open + "int FULL", open + "long NO"))), "the face's constants, not " + constants);
    }

    private static List<Class<?>> all() {
        List<Class<?>> all = new ArrayList<>(List.of(FlotsamQuorum.class));
        all.addAll(Arrays.asList(FlotsamQuorum.class.getDeclaredClasses()));
        return all;
    }

    private static void classes() {
        must(all().size() <= MOST_CLASSES, "some twelve classes");
        for (Class<?> c : all()) {
            must(c == FlotsamQuorum.class || Modifier.isStatic(c.getModifiers()), c + " is static");
            must(c.getDeclaredClasses().length == 0 || c == FlotsamQuorum.class, c + " has no classes inside");
            int own = 0;
            for (Field f : c.getDeclaredFields()) {
                boolean isStatic = Modifier.isStatic(f.getModifiers());
                own += isStatic ? 0 : 1;
                must(!isStatic || Modifier.isFinal(f.getModifiers()), f + " is final");
            }
            must(own <= MOST_FIELDS, c + " has some twenty fields");
            for (Method m : c.getDeclaredMethods()) {
                must(m.getParameterCount() <= MOST_PARAMETERS, m + " has seven parameters at most");
                must(!List.of("equals", "hashCode", "toString").contains(m.getName()), m + " is not of its own");
            }
        }
    }

    private static void signs(String source) {
        for (int i = 0; i < source.length(); i++) {
            must(source.charAt(i) < 127, "plain signs, not at " + i);
        }
    }

    private static String withoutComments(String source) {
        return source.replaceAll("(?s)/\\*.*?\\*/", "").replaceAll("//[^\n]*", "");
    }

    private static void words(String code) {
        String withoutTexts = code.replaceAll("\"[^\"\n]*\"", "\"\"");
        for (String word : WORDS) {
            must(!Pattern.compile("\\b" + word + "\\b").matcher(withoutTexts).find(), "no " + word);
        }
        for (String sign : SIGNS) {
            must(!withoutTexts.contains(sign), "no " + sign);
        }
        // Calls make no objects at all: all rows are made with the object, by its fields.
        Matcher made = Pattern.compile("(?m)^.*\\bnew\\b.*$").matcher(withoutTexts);
        while (made.find()) {
            String line = made.group().trim();
            boolean isField = line.contains(" final ") || line.startsWith("final ");
            must(isField || line.matches("(first|second|third) = new int\\[length\\];"), "made by a field: " + line);
        }
        Matcher method = Pattern.compile("(?m)^( {4,8})(?:\\w[\\w \\[\\]]*) \\w+\\([^;=]*\\) \\{$").matcher(withoutTexts);
        while (method.find()) {
            int end = withoutTexts.indexOf("\n" + method.group(1) + "}\n", method.start());
            long lines = withoutTexts.substring(method.start(), Math.max(end, method.start())).lines().count();
            must(end > 0 && lines <= MOST_LINES, "short: " + method.group().trim());
        }
    }
}
