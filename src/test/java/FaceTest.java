import java.io.IOException;
import java.lang.reflect.Field;
import java.lang.reflect.Member;
import java.lang.reflect.Modifier;
import java.nio.file.Files;
import java.nio.file.Path;
import java.util.Set;
import java.util.TreeSet;
import java.util.regex.Matcher;
import java.util.regex.Pattern;
import java.util.stream.Stream;

/** The public face of the class is that of the document, with nothing missing and nothing more. */
public final class FaceTest {
    private static final Path DOCUMENT = Path.of("../shared/DOC.md");
    private static final Pattern FACE = Pattern.compile("```java\\s+public final class StandIns \\{(.*?)\\}\\s+```", Pattern.DOTALL);

    private FaceTest() {
    }

    public static void main(String[] args) throws IOException, IllegalAccessException {
        Set<String> due = due();
        Set<String> got = got();
        boolean isPublicAndFinal = StandIns.class.getModifiers() == (Modifier.PUBLIC | Modifier.FINAL);
        System.out.println("FaceTest: " + got.size() + " members");
        if (!due.equals(got) || due.isEmpty() || !isPublicAndFinal) {
            System.out.println("FaceTest: got " + got + "\ndue " + due + "\npublic and final: " + isPublicAndFinal);
            System.exit(1);
        }
    }

    private static Set<String> due() throws IOException {
        Matcher face = FACE.matcher(Files.readString(DOCUMENT));
        Set<String> members = new TreeSet<>();
        if (face.find()) {
            for (String line : face.group(1).strip().split(";\\s*")) {
                // the names of the parameters are no part of the face
                members.add(line.replaceAll("(int|long) \\w+(?=[,)])", "$1").replace(", ", ","));
            }
        }
        return members;
    }

    private static Set<String> got() throws IllegalAccessException {
        Set<String> members = new TreeSet<>();
        Stream.of(StandIns.class.getDeclaredConstructors()).forEach(m -> addUnlessPrivate(members, m, m.toString()));
        Stream.of(StandIns.class.getDeclaredMethods()).forEach(m -> addUnlessPrivate(members, m, m.toString()));
        for (Field field : StandIns.class.getDeclaredFields()) {
            String value = Modifier.isStatic(field.getModifiers()) && !Modifier.isPrivate(field.getModifiers()) ? " = " + field.get(null) : "";
            addUnlessPrivate(members, field, field + value);
        }
        return members;
    }

    private static void addUnlessPrivate(Set<String> members, Member member, String text) {
        if (!Modifier.isPrivate(member.getModifiers())) {
            members.add(text.replace("StandIns.", "").replace("java.lang.", ""));
        }
    }
}
