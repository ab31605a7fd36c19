import java.lang.reflect.Constructor;
import java.lang.reflect.Member;
import java.lang.reflect.Method;
import java.lang.reflect.Modifier;
import java.nio.file.Files;
import java.nio.file.Path;
import java.util.Arrays;
import java.util.HashSet;
import java.util.Set;
import java.util.TreeSet;
import java.util.stream.Collectors;

/** The class has the face of the document, to the letter, and nothing beside it. */
public final class FaceTests {
    public static void main(String[] arguments) throws Exception {
        Checks.due("the face", faceOfDocument(), faceOfClass());
        Checks.due("the class", Modifier.PUBLIC | Modifier.FINAL, Monthyears.class.getModifiers());
        privateNamesAreTheirOwn();
        Checks.end("FaceTests");
    }

    private static Set<String> faceOfDocument() throws Exception {
        String document = Files.readString(Path.of("../shared/DOC.md"));
        String face = document.split("```java\n")[1].split("```")[0];
        Set<String> lines = new TreeSet<>();
        for (String line : face.split("\n")) {
            if (line.endsWith(";")) {
                String types = line.strip().replaceAll("(int|boolean) [a-zA-Z]+([,)])", "$1$2");
                lines.add(types.replaceAll("[ ,;]", ""));
            }
        }
        return lines;
    }

    private static Set<String> faceOfClass() {
        Set<String> lines = new TreeSet<>();
        for (Constructor<?> made : Monthyears.class.getDeclaredConstructors()) {
            addIfSeen(lines, made, made.toGenericString());
        }
        for (Method method : Monthyears.class.getDeclaredMethods()) {
            addIfSeen(lines, method, method.toGenericString());
        }
        Arrays.stream(Monthyears.class.getDeclaredFields()).forEach(field -> addIfSeen(lines, field, field.toString()));
        return lines;
    }

    private static void addIfSeen(Set<String> lines, Member member, String text) {
        if (!Modifier.isPrivate(member.getModifiers())) {
            lines.add(text.replace("Monthyears.", "").replace("java.lang.", "").replaceAll("[ ,]", ""));
        }
    }

    private static void privateNamesAreTheirOwn() {
        Set<String> names = Arrays.stream(Monthyears.class.getDeclaredMethods())
                .filter(method -> Modifier.isPublic(method.getModifiers()))
                .map(Method::getName).collect(Collectors.toCollection(HashSet::new));
        for (Method method : Monthyears.class.getDeclaredMethods()) {
            if (Modifier.isPrivate(method.getModifiers())) {
                Checks.due("a public name for " + method, false, names.contains(method.getName()));
            }
        }
        for (Class<?> inner : Monthyears.class.getDeclaredClasses()) {
            for (Method method : inner.getDeclaredMethods()) {
                Checks.due("a public name for " + method, false, names.contains(method.getName()));
            }
        }
    }
}
