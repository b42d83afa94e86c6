import java.io.IOException;
import java.lang.reflect.Method;
import java.nio.charset.StandardCharsets;
import java.nio.file.Files;
import java.nio.file.Path;

/** The example of README.md: its calls, with the answers that it tells. */
public final class ReadmeTest {
    private static String readme;
    private static int place;

    public static void main(String[] args) throws IOException {
        readme = Files.readString(Path.of("README.md"), StandardCharsets.UTF_8);
        Check.part("the example of README.md");
        place = readme.indexOf("```java\n");
        TriggerConditions permission = new TriggerConditions();
        next("TriggerConditions permission = new TriggerConditions();");
        int ahead = permission.condition(0, 0, 0, 2);
        told("int ahead = permission.condition(0, 0, 0, 2);", ahead);
        int within = permission.condition(1, 0, 5, 1);
        told("int within = permission.condition(1, 0, 5, 1);", within);
        told("permission.apply(ahead, 3);", permission.apply(ahead, 3));
        told("permission.lawful(0);", permission.lawful(0));
        told("permission.pass(56);", permission.pass(56));
        told("permission.begin(0);", permission.begin(0));
        told("permission.when(within, 3);", permission.when(within, 3));
        told("permission.pass(6);", permission.pass(6));
        told("permission.which(3);", permission.which(3));
        told("permission.serve(within, 2);", permission.serve(within, 2));
        told("permission.pass(5);", permission.pass(5));
        told("permission.conditionOf(within, 11);", permission.conditionOf(within, 11));
        told("permission.fine(within, 1000);", permission.fine(within, 1000));
        told("permission.undo();", permission.undo());
        told("permission.count(1);", permission.count(1));
        told("permission.begin(0);", permission.begin(0));
        next("for (char c : \"a1,1;p1;\".toCharArray()) {");
        next("permission.type(c);");
        next("}");
        Check.write(permission, "a1,1;p1;");
        told("permission.fault(0);", permission.fault(0));
        told("permission.play();", permission.play());
        next("```");
        Check.due("applied for and a day behind", permission.conditionOf(within, 7), 1);
        everyCallIsNamed();
        Check.end();
    }

    /** The next line of the example, up to its comment, has to be this one. */
    private static String next(String code) {
        int start = readme.indexOf('\n', place) + 1;
        int end = readme.indexOf('\n', start);
        place = end;
        String line = readme.substring(start, end);
        int comment = line.indexOf("// ");
        Check.due("the line", line.substring(0, comment < 0 ? line.length() : comment).strip(), code);
        return comment < 0 ? "" : line.substring(comment + 3);
    }

    private static void told(String code, long answer) {
        Check.due(code, next(code).split("[ :]")[0], String.valueOf(answer));
    }

    private static void everyCallIsNamed() {
        Check.part("the calls of README.md");
        for (Method method : TriggerConditions.class.getMethods()) {
            if (method.getDeclaringClass() == TriggerConditions.class) {
                Check.due("README.md has " + method.getName(), readme.contains("`" + method.getName() + "`") ? 1 : 0, 1);
            }
        }
    }
}
