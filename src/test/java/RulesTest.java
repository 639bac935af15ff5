import java.lang.reflect.Constructor;
import java.lang.reflect.Field;
import java.lang.reflect.Method;
import java.lang.reflect.Modifier;
import java.nio.file.Files;
import java.nio.file.Path;
import java.util.List;
import java.util.TreeSet;
import java.util.regex.Matcher;
import java.util.regex.Pattern;

/** The face of the class, and those rules of LANGUAGE.md that show in its words. */
public final class RulesTest {
    private static final String[] FACE = {"write int", "wipe", "fault", "shop", "about int", "person int int",
        "quality int int", "deed int int", "day", "pledge int", "redeem int", "give int int", "undo", "due int int",
        "done int", "coins int int", "raise int int int", "back int", "judge int long", "share int boolean",
        "ask int int", "unask", "tickets int", "rests int int int", "sales int int boolean", "seed long", "years int",
        "keep int", "again int"};
    private static final String[] FORBIDDEN = {"throw", "throws", "try", "catch", "finally", "synchronized", "assert",
        "package", "var", "Object", "volatile", "native", "protected"};
    /** What stands under rule 4, so far as it is called by a class's name. */
    private static final Pattern LIBRARY = Pattern.compile("Arrays\\.(copyOf|copyOfRange|fill)|System\\.arraycopy"
        + "|List\\.of|(Math|Long|Integer)\\.(?!\\w*Exact\\b|random\\b|getInteger\\b|getLong\\b)\\w+");
    private static int wrong;

    public static void main(String[] args) throws Exception {
        face();
        inner();
        source(Files.readString(Path.of("src/main/java/PluckBroker.java")));
        System.out.println(wrong == 0 ? "all rules are kept" : wrong + " rules are not kept");
        if (wrong != 0) {
            System.exit(1);
        }
    }

    private static void rule(boolean kept, String told) {
        if (!kept) {
            wrong++;
            System.out.println("rule not kept: " + told);
        }
    }

    private static void face() {
        Class<?> broker = PluckBroker.class;
        int modifiers = broker.getModifiers();
        rule(Modifier.isPublic(modifiers) && Modifier.isFinal(modifiers), "1: public and final");
        TreeSet<String> want = new TreeSet<>(List.of(FACE));
        TreeSet<String> got = new TreeSet<>();
        TreeSet<String> names = new TreeSet<>();
        for (Method method : broker.getDeclaredMethods()) {
            if (method.isSynthetic() || Modifier.isPrivate(method.getModifiers())) {
                continue;
            }
            StringBuilder told = new StringBuilder(method.getName());
            for (Class<?> type : method.getParameterTypes()) {
                told.append(' ').append(type.getName());
            }
            got.add(told.toString());
            names.add(method.getName());
            rule(Modifier.isPublic(method.getModifiers()) && !Modifier.isStatic(method.getModifiers()), "1: " + told);
            Class<?> answer = method.getName().equals("seed") ? long.class : int.class;
            rule(method.getReturnType() == answer, "answer of " + told);
        }
        rule(want.equals(got), "1: the face is " + got);
        for (Method method : broker.getDeclaredMethods()) {
            boolean hidden = Modifier.isPrivate(method.getModifiers());
            rule(!hidden || !names.contains(method.getName()), "1: private " + method.getName());
        }
        Constructor<?>[] makers = broker.getDeclaredConstructors();
        rule(makers.length == 1 && makers[0].getParameterCount() == 0, "1: one constructor");
        TreeSet<String> constants = new TreeSet<>();
        for (Field field : broker.getDeclaredFields()) {
            int is = field.getModifiers();
            rule(!Modifier.isStatic(is) || Modifier.isFinal(is), "5: " + field.getName());
            if (!Modifier.isPrivate(is)) {
                constants.add(field.getName());
                boolean constant = Modifier.isPublic(is) && Modifier.isStatic(is) && field.getType() == int.class;
                rule(constant, "1: " + field.getName());
            }
        }
        rule(constants.equals(new TreeSet<>(List.of("UNKNOWN", "BAD", "LATE", "FULL", "NONE"))), "1: " + constants);
    }

    private static void inner() {
        Class<?>[] inner = PluckBroker.class.getDeclaredClasses();
        rule(inner.length <= 12, "11: classes");
        for (Class<?> one : inner) {
            rule(Modifier.isStatic(one.getModifiers()), "2: " + one.getName());
            boolean open = Modifier.isPublic(one.getModifiers()) || Modifier.isProtected(one.getModifiers());
            rule(!open, "1: " + one.getName());
            int fields = 0;
            for (Field field : one.getDeclaredFields()) {
                boolean constant = Modifier.isStatic(field.getModifiers());
                rule(!constant || Modifier.isFinal(field.getModifiers()), "5: " + field.getName());
                fields += constant ? 0 : 1;
            }
            rule(fields <= 20, "11: fields of " + one.getName());
            for (Method method : one.getDeclaredMethods()) {
                rule(method.getParameterCount() <= 7, "11: " + method.getName());
            }
        }
    }

    private static void source(String source) {
        String code = source.replaceAll("(?s)/\\*.*?\\*/", "").replaceAll("//[^\n]*", "");
        for (String word : FORBIDDEN) {
            rule(!Pattern.compile("\\b" + word + "\\b").matcher(code).find(), "no " + word);
        }
        rule(!code.contains("->") && !code.contains("::"), "2: no lambda, no method reference");
        rule(source.chars().allMatch(c -> c < 128), "4: signs are below 128");
        Matcher used = Pattern.compile("\\b(System|Math|StrictMath|Long|String|Integer|Arrays|List|Character|Thread"
            + "|Runtime)\\.\\w+").matcher(code);
        while (used.find()) {
            rule(LIBRARY.matcher(used.group()).matches(), "4: " + used.group());
        }
        Matcher imported = Pattern.compile("(?m)^import\\s+(.*)$").matcher(code);
        while (imported.find()) {
            boolean named = imported.group(1).matches("java\\.util\\.(ArrayList|List|Arrays|Iterator);");
            rule(named, "4: " + imported.group());
        }
        methodsAreShort(source);
    }

    private static void methodsAreShort(String source) {
        Pattern head = Pattern.compile("( {4}| {8})(?!if|for|while|switch)[a-zA-Z].*\\) \\{");
        String[] lines = source.split("\n");
        for (int i = 0; i < lines.length; i++) {
            Matcher start = head.matcher(lines[i]);
            if (start.matches()) {
                int end = i;
                while (end < lines.length && !lines[end].equals(start.group(1) + "}")) {
                    end++;
                }
                rule(end < lines.length && end - i < 60, "11: a long method: " + lines[i].trim());
            }
        }
    }
}
