import java.lang.reflect.Constructor;
import java.lang.reflect.Field;
import java.lang.reflect.Method;
import java.lang.reflect.Modifier;
import java.nio.charset.StandardCharsets;
import java.nio.file.Files;
import java.nio.file.Path;
import java.util.ArrayList;
import java.util.List;
import java.util.TreeSet;
import java.util.regex.Matcher;
import java.util.regex.Pattern;

/** Holds the class against the public face in the document, and against rule 1 of LANGUAGE.md. */
public final class FaceTest {
    public static void main(String[] args) throws Exception {
        Check check = new Check();
        check.begin("face");
        String face = faceInDocument();
        TreeSet<String> due = new TreeSet<>(methodsIn(face));
        TreeSet<String> got = new TreeSet<>();
        TreeSet<String> publicNames = new TreeSet<>();
        for (Method method : RationOffice.class.getDeclaredMethods()) {
            if (Modifier.isPublic(method.getModifiers())) {
                got.add(describe(method));
                publicNames.add(method.getName());
            }
        }
        check.due("number of methods", due.size(), 64);
        compare(check, due, got);
        compareConstants(check, face);
        checkMembers(check, publicNames);
        check.finish();
    }

    private static String faceInDocument() throws Exception {
        String document = Files.readString(Path.of("../shared/DOC.md"), StandardCharsets.UTF_8);
        int start = document.indexOf("```java");
        return document.substring(start, document.indexOf("```", start + 3));
    }

    private static List<String> methodsIn(String face) {
        List<String> methods = new ArrayList<>();
        Matcher matcher = Pattern.compile("public (int|boolean) (\\w+)\\(([^)]*)\\)( throws \\w+)?;").matcher(face);
        while (matcher.find()) {
            int parameters = matcher.group(3).isEmpty() ? 0 : matcher.group(3).split(",").length;
            methods.add(matcher.group(1) + " " + matcher.group(2) + " " + parameters
                + (matcher.group(4) == null ? "" : matcher.group(4)));
        }
        return methods;
    }

    private static String describe(Method method) {
        for (Class<?> type : method.getParameterTypes()) {
            if (type != int.class) {
                return method.toString();
            }
        }
        StringBuilder text = new StringBuilder();
        text.append(method.getReturnType().getName()).append(' ').append(method.getName());
        text.append(' ').append(method.getParameterCount());
        for (Class<?> type : method.getExceptionTypes()) {
            text.append(" throws ").append(type.getSimpleName());
        }
        return text.toString();
    }

    private static void compare(Check check, TreeSet<String> due, TreeSet<String> got) {
        for (String method : due) {
            check.due("there is " + method, got.contains(method), true);
        }
        for (String method : got) {
            check.due("the document has " + method, due.contains(method), true);
        }
    }

    private static void compareConstants(Check check, String face) throws Exception {
        int count = 0;
        Matcher lines = Pattern.compile("public static final int ([^;]*);").matcher(face);
        while (lines.find()) {
            for (String constant : lines.group(1).split(",")) {
                String[] sides = constant.split("=");
                Field field = RationOffice.class.getField(sides[0].trim());
                check.due(field.getName(), field.getInt(null), Integer.parseInt(sides[1].trim()));
                count++;
            }
        }
        check.due("number of constants", RationOffice.class.getFields().length, count);
    }

    private static void checkMembers(Check check, TreeSet<String> publicNames) {
        check.due("the class is public and final", RationOffice.class.getModifiers(), Modifier.PUBLIC | Modifier.FINAL);
        Constructor<?>[] constructors = RationOffice.class.getDeclaredConstructors();
        check.due("constructors", constructors.length, 1);
        check.due("the constructor is public", constructors[0].getModifiers(), Modifier.PUBLIC);
        check.due("the constructor's parameters", constructors[0].getParameterCount(), 0);
        for (Field field : RationOffice.class.getDeclaredFields()) {
            check.due(field + " is public or private", isPublicOrPrivate(field.getModifiers()), true);
        }
        for (Method method : RationOffice.class.getDeclaredMethods()) {
            check.due(method + " is public or private", isPublicOrPrivate(method.getModifiers()), true);
        }
        for (Class<?> inside : RationOffice.class.getDeclaredClasses()) {
            check.due(inside + " is static", Modifier.isStatic(inside.getModifiers()), true);
            check.due(inside + " is not public", Modifier.isPublic(inside.getModifiers()), false);
            for (Method method : inside.getDeclaredMethods()) {
                check.due(method + " bears no public name", publicNames.contains(method.getName()), false);
            }
        }
    }

    private static boolean isPublicOrPrivate(int modifiers) {
        return Modifier.isPublic(modifiers) || Modifier.isPrivate(modifiers);
    }
}
