import java.io.IOException;
import java.lang.reflect.Constructor;
import java.lang.reflect.Field;
import java.lang.reflect.Method;
import java.lang.reflect.Modifier;
import java.nio.file.Files;
import java.nio.file.Path;
import java.util.Arrays;
import java.util.Set;
import java.util.TreeSet;
import java.util.regex.Matcher;
import java.util.regex.Pattern;
import java.util.stream.Collectors;

/** The class has the document's face and no more, and no private method bears the name of a public one. */
public final class FaceTest {
    public static void main(String[] args) throws IOException {
        Set<String> due = new TreeSet<>();
        String document = Files.readString(Path.of("../shared/DOC.md"));
        String face = document.substring(document.indexOf("```java"), document.indexOf("```\n", document.indexOf("```java")));
        Matcher lines = Pattern.compile("    public (.*);").matcher(face);
        while (lines.find()) {
            due.add(lines.group(1).replaceAll("(int|char) \\w+([,)])", "$1$2"));
        }
        Bench.due("lines of the face", due.size(), 32);
        Set<String> got = new TreeSet<>();
        Set<String> names = new TreeSet<>();
        for (Method method : RosettaMill.class.getDeclaredMethods()) {
            if (!Modifier.isPrivate(method.getModifiers())) {
                Bench.due(method.getName() + " is public and of the object", method.getModifiers(), Modifier.PUBLIC);
                got.add(method.getReturnType() + " " + method.getName() + told(method.getParameterTypes(),
                    method.getExceptionTypes()));
                names.add(method.getName());
            }
        }
        for (Constructor<?> constructor : RosettaMill.class.getDeclaredConstructors()) {
            got.add("RosettaMill" + told(constructor.getParameterTypes(), constructor.getExceptionTypes()));
        }
        Bench.due("the face", got, due);
        Bench.due("the class", RosettaMill.class.getModifiers(), Modifier.PUBLIC | Modifier.FINAL);
        hiddenPartsOf(RosettaMill.class, names);
        for (Class<?> inside : RosettaMill.class.getDeclaredClasses()) {
            Bench.due(inside + " is static", Modifier.isStatic(inside.getModifiers()), true);
            hiddenPartsOf(inside, names);
        }
        Bench.end("FaceTest");
    }

    private static String told(Class<?>[] parameters, Class<?>[] exceptions) {
        String told = "(" + names(parameters) + ")";
        return exceptions.length == 0 ? told : told + " throws " + names(exceptions);
    }

    private static String names(Class<?>[] classes) {
        return Arrays.stream(classes).map(Class::getSimpleName).collect(Collectors.joining(", "));
    }

    private static void hiddenPartsOf(Class<?> part, Set<String> names) {
        for (Field field : part.getDeclaredFields()) {
            Bench.due(field + " is final if it is static", Modifier.isStatic(field.getModifiers())
                && !Modifier.isFinal(field.getModifiers()), false);
            Bench.due(field + " is hidden", part == RosettaMill.class && !Modifier.isPrivate(field.getModifiers()), false);
        }
        for (Method method : part.getDeclaredMethods()) {
            Bench.due(method + " bears the name of a public one", !Modifier.isPublic(method.getModifiers())
                && names.contains(method.getName()), false);
            Bench.due(method + " has at most seven parameters", method.getParameterCount() <= 7, true);
        }
    }
}
