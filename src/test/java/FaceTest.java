import java.lang.reflect.Constructor;
import java.lang.reflect.Field;
import java.lang.reflect.Method;
import java.lang.reflect.Modifier;
import java.nio.file.Files;
import java.nio.file.Path;
import java.util.ArrayList;
import java.util.Arrays;
import java.util.Collections;
import java.util.List;
import java.util.TreeSet;

/** The public face: just the members that the document writes down, with their exceptions. */
public final class FaceTest {
    public static void main(String[] args) throws Exception {
        int modifiers = DropMarket.class.getModifiers();
        Check.due("public", true, Modifier.isPublic(modifiers));
        Check.due("final", true, Modifier.isFinal(modifiers));
        Check.due("the face", documentsFace(), programsFace());
        noOtherMembers();
        Check.end("FaceTest");
    }

    private static List<String> documentsFace() throws Exception {
        String document = Files.readString(Path.of("../shared/DOC.md"));
        String face = document.substring(document.indexOf("public final class"), document.indexOf("## Terms"));
        List<String> members = new ArrayList<>();
        for (String line : face.split("\n")) {
            if (line.startsWith("    public ")) {
                members.add(line.strip().replace(";", "").replaceAll(" (money|drops|stall|price|quantity|minutes|order"
                        + "|rank|position|index|character)\\b", ""));
            }
        }
        Collections.sort(members);
        return members;
    }

    private static List<String> programsFace() {
        List<String> members = new ArrayList<>();
        for (Constructor<?> constructor : DropMarket.class.getConstructors()) {
            members.add("public DropMarket(" + names(constructor.getParameterTypes()) + ")");
        }
        for (Method method : DropMarket.class.getDeclaredMethods()) {
            if (Modifier.isPublic(method.getModifiers())) {
                String thrown = names(method.getExceptionTypes());
                members.add("public " + method.getReturnType().getSimpleName() + " " + method.getName() + "("
                        + names(method.getParameterTypes()) + ")" + (thrown.isEmpty() ? "" : " throws " + thrown));
            }
        }
        Collections.sort(members);
        return members;
    }

    private static String names(Class<?>[] types) {
        return String.join(", ", Arrays.stream(types).map(Class::getSimpleName).toList());
    }

    private static void noOtherMembers() {
        TreeSet<String> names = new TreeSet<>();
        for (Method method : DropMarket.class.getDeclaredMethods()) {
            if (Modifier.isPublic(method.getModifiers())) {
                names.add(method.getName());
            }
        }
        for (Method method : DropMarket.class.getDeclaredMethods()) {
            boolean isPublic = Modifier.isPublic(method.getModifiers());
            Check.due(method.getName() + " is public or private", true,
                    isPublic || Modifier.isPrivate(method.getModifiers()));
            Check.due(method.getName() + " has no public name", true, isPublic || !names.contains(method.getName()));
        }
        for (Field field : DropMarket.class.getDeclaredFields()) {
            Check.due(field.getName() + " is private", true, Modifier.isPrivate(field.getModifiers()));
        }
        for (Class<?> inside : DropMarket.class.getDeclaredClasses()) {
            Check.due(inside.getName() + " is static", true, Modifier.isStatic(inside.getModifiers()));
        }
    }
}
