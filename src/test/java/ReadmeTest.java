import java.lang.reflect.Method;
import java.lang.reflect.Modifier;
import java.nio.file.Files;
import java.nio.file.Path;
import java.util.List;
import java.util.regex.Matcher;
import java.util.regex.Pattern;

/** What README.md tells is so: its example is run line by line; it names every call, and no test that is not there. */
public final class ReadmeTest {
    private static final Check CHECK = new Check();
    /** What the interface says ahead of its calls, and the calls behind it, in the document's order. */
    private static final String[] SECTIONS = {"the shop: write wipe fault shop about person quality deed",
        "acts: day pledge redeem give undo", "days to come: due done coins raise back judge share",
        "asked: ask unask tickets", "rests, chances: rests sales seed years", "slots: keep again"};
    private static final Pattern TEXT = Pattern.compile("\"([^\"]*)\"\\.toCharArray\\(\\)");
    private static final Pattern CALL = Pattern.compile("^broker\\.(\\w+)\\((.*)\\);\\s+// (-?\\d+):.*");

    public static void main(String[] args) throws Exception {
        String readme = Files.readString(Path.of("README.md"));
        examples(readme.split("\n"));
        everyCallIsNamed(readme);
        testsAreThere(readme);
        CHECK.end();
    }

    private static void examples(String[] lines) throws Exception {
        PluckBroker broker = new PluckBroker();
        int calls = 0;
        for (String line : lines) {
            Matcher text = TEXT.matcher(line);
            Matcher call = CALL.matcher(line);
            if (text.find()) {
                Check.write(broker, text.group(1));
            } else if (call.matches()) {
                CHECK.due("README: " + line.trim(), run(broker, call), Long.parseLong(call.group(3)));
                calls++;
            } else if (line.startsWith("broker.")) {
                CHECK.due("README tells what this answers: " + line, 0, 1);
            }
        }
        CHECK.due("README has examples", calls >= 10 ? 1 : 0, 1);
    }

    private static long run(PluckBroker broker, Matcher call) throws Exception {
        String[] told = call.group(2).isEmpty() ? new String[0] : call.group(2).split(", ");
        for (Method method : PluckBroker.class.getMethods()) {
            if (method.getName().equals(call.group(1)) && method.getParameterCount() == told.length) {
                Object[] values = new Object[told.length];
                for (int i = 0; i < told.length; i++) {
                    values[i] = value(method.getParameterTypes()[i], told[i]);
                }
                return ((Number) method.invoke(broker, values)).longValue();
            }
        }
        throw new IllegalStateException("no such call: " + call.group());
    }

    private static Object value(Class<?> type, String told) {
        if (type == boolean.class) {
            return Boolean.valueOf(told);
        }
        long number = told.startsWith("'") ? told.charAt(1) : Long.parseLong(told.replace("L", ""));
        return type == long.class ? (Object) number : (Object) (int) number;
    }

    private static void everyCallIsNamed(String readme) {
        StringBuilder told = new StringBuilder();
        Matcher line = Pattern.compile("(?m)^#### (.*)$|^\\| `(\\w+)\\(").matcher(readme);
        while (line.find()) {
            told.append(line.group(1) != null ? "\n" + line.group(1) + ":" : " " + line.group(2));
        }
        String want = "\n" + String.join("\n", SECTIONS);
        CHECK.due("README tells the calls by sections: " + told, told.toString().equals(want) ? 1 : 0, 1);
        for (Method method : PluckBroker.class.getDeclaredMethods()) {
            if (Modifier.isPublic(method.getModifiers())) {
                boolean named = readme.contains("\n| `" + method.getName() + "(");
                CHECK.due("README tells what " + method.getName() + " answers", named ? 1 : 0, 1);
            }
        }
        for (String answer : List.of("`UNKNOWN` (-1;", "`BAD` (-2;", "`LATE` (-3;", "`FULL` (-4;", "`NONE` (-9)")) {
            CHECK.due("README tells " + answer, readme.contains(answer) ? 1 : 0, 1);
        }
    }

    /** A test that README.md tells of is there. */
    private static void testsAreThere(String readme) {
        Matcher test = Pattern.compile("`(\\w+Test|Check|Model)`").matcher(readme);
        int found = 0;
        while (test.find()) {
            boolean there = Files.exists(Path.of("src/test/java/" + test.group(1) + ".java"));
            CHECK.due("README tells of " + test.group(1), there ? 1 : 0, 1);
            found++;
        }
        CHECK.due("README tells of tests", found >= 10 ? 1 : 0, 1);
        CHECK.due("README tells how to run them", readme.contains("\n.ci/run\n") ? 1 : 0, 1);
    }
}
