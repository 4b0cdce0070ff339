import java.lang.reflect.Constructor;
import java.lang.reflect.Executable;
import java.lang.reflect.Field;
import java.lang.reflect.Method;
import java.lang.reflect.Modifier;
import java.nio.file.Files;
import java.nio.file.Path;
import java.util.Arrays;
import java.util.Set;
import java.util.TreeSet;
import java.util.stream.Collectors;

/** The class has the document's face and nothing more to be seen from outside (LANGUAGE.md, rule 1). */
public final class FaceTest {
    private static final Path DOCUMENT = Path.of("../shared/DOC.md");

    public static void main(String[] args) throws Exception {
        Due due = new Due();
        due.same("the face", face(), documentsFace());
        due.same("the promises' signatures", face(), promisesFace());
        due.same("public and final", Checkrow.class.getModifiers(), Modifier.PUBLIC | Modifier.FINAL);
        for (Field field : Checkrow.class.getDeclaredFields()) {
            due.same("private " + field.getName(), Modifier.isPrivate(field.getModifiers()), true);
        }
        Set<String> open = new TreeSet<>();
        for (Method method : Checkrow.class.getDeclaredMethods()) {
            if (Modifier.isPublic(method.getModifiers())) {
                open.add(method.getName());
            }
        }
        noSecondMeaning(due, Checkrow.class, open);
        for (Class<?> inside : Checkrow.class.getDeclaredClasses()) {
            int modifiers = inside.getModifiers();
            due.same("static " + inside.getSimpleName(), Modifier.isStatic(modifiers), true);
            due.same("hidden " + inside.getSimpleName(),
                    Modifier.isPublic(modifiers) || Modifier.isProtected(modifiers), false);
            noSecondMeaning(due, inside, open);
        }
        due.end();
    }

    private static void noSecondMeaning(Due due, Class<?> owner, Set<String> open) {
        for (Method method : owner.getDeclaredMethods()) {
            if (!Modifier.isPublic(method.getModifiers())) {
                due.same(owner.getSimpleName() + "." + method.getName() + " bears a public name",
                        open.contains(method.getName()), false);
            }
        }
    }

    /** Every method and constructor that is not private, so that a package-visible one shows too. */
    private static Set<String> face() {
        Set<String> lines = new TreeSet<>();
        for (Constructor<?> made : Checkrow.class.getDeclaredConstructors()) {
            if (!Modifier.isPrivate(made.getModifiers())) {
                lines.add(signature(made, "Checkrow"));
            }
        }
        for (Method method : Checkrow.class.getDeclaredMethods()) {
            if (!Modifier.isPrivate(method.getModifiers())) {
                lines.add(signature(method, method.getReturnType().getSimpleName() + " " + method.getName()));
            }
        }
        return lines;
    }

    private static String signature(Executable one, String name) {
        String thrown = names(one.getExceptionTypes());
        String line = name + "(" + names(one.getParameterTypes()) + ")" + (thrown.isEmpty() ? "" : " throws " + thrown);
        return (Modifier.toString(one.getModifiers()) + " " + line).trim();
    }

    private static String names(Class<?>[] types) {
        return Arrays.stream(types).map(Class::getSimpleName).collect(Collectors.joining(", "));
    }

    private static Set<String> documentsFace() throws Exception {
        return Files.readAllLines(DOCUMENT).stream()
                .filter(line -> line.startsWith("    public "))
                .map(line -> withoutNames(line.trim().replace(";", "")))
                .collect(Collectors.toCollection(TreeSet::new));
    }

    /** Each promise begins with the signature of what it promises. */
    private static Set<String> promisesFace() throws Exception {
        return Files.readAllLines(DOCUMENT).stream()
                .filter(line -> line.startsWith("`") && !line.startsWith("```"))
                .map(line -> "public " + withoutNames(line.replace("`", "")))
                .collect(Collectors.toCollection(TreeSet::new));
    }

    private static String withoutNames(String signature) {
        return signature.replaceAll("(int|long|boolean|String) \\w+(?=[,)])", "$1");
    }
}
