import java.io.IOException;
import java.lang.reflect.Field;
import java.lang.reflect.Method;
import java.lang.reflect.Modifier;
import java.nio.charset.StandardCharsets;
import java.nio.file.Files;
import java.nio.file.Path;
import java.util.TreeSet;
import java.util.regex.Matcher;
import java.util.regex.Pattern;

/** The public face, and what can be seen of the rules of LANGUAGE.md from outside. */
public final class FaceTest {
    private static final String[] METHODS = {
        "int condition(int, int, int, int)", "int begin(int)", "int finish(int)", "int apply(int, int)",
        "int decide(int, int)", "int lapse(int)", "int cure(int)", "int serve(int, int)", "int vary(int, int, int)",
        "int pass(int)", "int set(int, int)", "int conditionOf(int, int)", "int stageOf(int, int)", "int which(int)",
        "int when(int, int)", "int lawful(int)", "long fine(int, long)", "int share()", "int count(int)", "int undo()",
        "int type(int)", "int clearText()", "int fault(int)", "int play()"};

    public static void main(String[] args) throws IOException {
        constants();
        methods();
        classesInside();
        sizes(TriggerConditions.class);
        for (Class<?> inside : TriggerConditions.class.getDeclaredClasses()) {
            sizes(inside);
        }
        source();
        Check.end();
    }

    private static void constants() {
        Check.part("the constants");
        Check.due("INVALID_ARGUMENT", TriggerConditions.INVALID_ARGUMENT, -1000001);
        Check.due("NOT_POSSIBLE", TriggerConditions.NOT_POSSIBLE, -1000002);
        Check.due("LIMIT_REACHED", TriggerConditions.LIMIT_REACHED, -1000003);
        Check.due("NOT_FOUND", TriggerConditions.NOT_FOUND, -1000004);
        int open = 0;
        for (Field field : TriggerConditions.class.getDeclaredFields()) {
            boolean told = field.getName().matches("INVALID_ARGUMENT|NOT_POSSIBLE|LIMIT_REACHED|NOT_FOUND");
            Check.due("public " + field.getName(), Modifier.isPublic(field.getModifiers()) ? 1 : 0, told ? 1 : 0);
            Check.due("private " + field.getName(), Modifier.isPrivate(field.getModifiers()) ? 1 : 0, told ? 0 : 1);
            open += told ? 1 : 0;
        }
        Check.due("constants", open, 4);
    }

    private static void methods() {
        Check.part("the methods");
        TreeSet<String> due = new TreeSet<>();
        TreeSet<String> names = new TreeSet<>();
        for (String method : METHODS) {
            due.add(method);
            names.add(method.substring(method.indexOf(' ') + 1, method.indexOf('(')));
        }
        TreeSet<String> open = new TreeSet<>();
        for (Method method : TriggerConditions.class.getDeclaredMethods()) {
            if (Modifier.isPrivate(method.getModifiers())) {
                Check.due("private " + method.getName(), names.contains(method.getName()) ? 1 : 0, 0);
            } else {
                Check.due("not static", Modifier.isStatic(method.getModifiers()) ? 1 : 0, 0);
                open.add(told(method));
            }
        }
        Check.due("the open methods", open.toString(), due.toString());
        Check.due("constructors", TriggerConditions.class.getDeclaredConstructors().length, 1);
        Check.due("public constructors", TriggerConditions.class.getConstructors().length, 1);
        Check.due("final", Modifier.isFinal(TriggerConditions.class.getModifiers()) ? 1 : 0, 1);
    }

    private static String told(Method method) {
        StringBuilder told = new StringBuilder(method.getReturnType() + " " + method.getName() + "(");
        for (Class<?> type : method.getParameterTypes()) {
            told.append(told.charAt(told.length() - 1) == '(' ? "" : ", ").append(type);
        }
        return told.append(')').toString();
    }

    private static void classesInside() {
        Check.part("the classes inside");
        Class<?>[] inside = TriggerConditions.class.getDeclaredClasses();
        Check.due("at most twelve", inside.length <= 11 ? 1 : 0, 1);
        for (Class<?> each : inside) {
            Check.due("static " + each, Modifier.isStatic(each.getModifiers()) ? 1 : 0, 1);
            Check.due("private " + each, Modifier.isPrivate(each.getModifiers()) ? 1 : 0, 1);
            for (Method method : each.getDeclaredMethods()) {
                boolean likePublic = false;
                for (String face : METHODS) {
                    likePublic |= face.contains(" " + method.getName() + "(");
                }
                Check.due("private " + method.getName() + ", a name of the face", likePublic ? 1 : 0, 0);
            }
        }
    }

    private static void sizes(Class<?> of) {
        Check.part("fields and parameters of " + of.getSimpleName());
        int fields = 0;
        for (Field field : of.getDeclaredFields()) {
            boolean isStatic = Modifier.isStatic(field.getModifiers());
            boolean isFinal = Modifier.isFinal(field.getModifiers());
            Check.due(field.getName() + " is static, but may change", isStatic && !isFinal ? 1 : 0, 0);
            fields += isStatic ? 0 : 1;
        }
        Check.due("at most twenty fields, there are " + fields, fields <= 20 ? 1 : 0, 1);
        for (Method method : of.getDeclaredMethods()) {
            Check.due("at most seven parameters of " + method.getName(), method.getParameterCount() <= 7 ? 1 : 0, 1);
        }
    }

    private static void source() throws IOException {
        Check.part("the source");
        String source = Files.readString(Path.of("src/main/java/TriggerConditions.java"), StandardCharsets.UTF_8);
        for (int i = 0; i < source.length(); i++) {
            char c = source.charAt(i);
            if (c > 126 || c < 32 && c != '\n') {
                Check.due("the character at " + i, c, ' ');
            }
        }
        String code = source.replaceAll("(?s)/\\*.*?\\*/", " ").replaceAll("//[^\n]*", " ");
        Pattern out = Pattern.compile("\\b(throw|throws|try|catch|finally|synchronized|assert|import|package|equals|hashCode"
            + "|toString|instanceof|Float|Double|System\\.(?!arraycopy)|Long\\.M\\w+|Integer\\.M\\w+|\\w+Exact)\\b|->|::|\"");
        Matcher found = out.matcher(code);
        while (found.find()) {
            Check.due("the source has no", found.group(), "");
        }
        Check.due("it has code", code.contains("public final class TriggerConditions {") ? 1 : 0, 1);
    }
}
