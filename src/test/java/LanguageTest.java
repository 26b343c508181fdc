import java.io.IOException;
import java.nio.file.Files;
import java.nio.file.Path;
import java.util.List;
import java.util.regex.Matcher;
import java.util.regex.Pattern;

/** What can be seen of the rules of ../shared/LANGUAGE.md from the lines of the class. */
public final class LanguageTest {
    private static final Path SOURCE = Path.of("src/main/java/StandIns.java");
    private static final int LONGEST_METHOD = 60;
    private static final Pattern PUBLIC_METHOD = Pattern.compile("^    public int (\\w+)\\(");
    private static final Pattern OTHER_METHOD = Pattern.compile("^ +(?:private |static )*(?:\\w+) (\\w+)\\([^)]*\\) \\{$");
    private static final String[] FORBIDDEN = {
        "^import ", "^package ", "->", "::", "Exact\\(", "\\bsynchronized\\b", "\\bassert\\b", "\\bfinally\\b", "\\btry\\b",
        "\\bcatch\\b", "\\bstatic \\{", "\\bprotected\\b", "\" \\+|\\+ \"", "getMessage", "\\bvar\\b", "[^\\x20-\\x7e]",
        "\\blambda\\b", "@\\w", "System\\.(?!arraycopy)", "\\bThread\\b", "\\bequals\\b", "\\bhashCode\\b", "\\btoString\\b"};
    private static int wrong = 0;

    public static void main(String[] args) throws IOException {
        List<String> lines = Files.readAllLines(SOURCE);
        forbidden(lines);
        names(lines);
        lengths(lines);
        System.out.println("LanguageTest: " + lines.size() + " lines, " + wrong + " wrong");
        if (wrong != 0) {
            System.exit(1);
        }
    }

    private static void tell(int line, String what) {
        wrong++;
        System.out.println(SOURCE + ":" + line + ": " + what);
    }

    private static void forbidden(List<String> lines) {
        for (int i = 0; i < lines.size(); i++) {
            for (String word : FORBIDDEN) {
                if (Pattern.compile(word).matcher(lines.get(i)).find()) {
                    tell(i + 1, "here stands " + word);
                }
            }
        }
    }

    private static void names(List<String> lines) {
        List<String> face = lines.stream().map(PUBLIC_METHOD::matcher).filter(Matcher::find).map(m -> m.group(1)).toList();
        if (face.size() != 30) {
            tell(0, "the face has " + face.size() + " methods");
        }
        for (int i = 0; i < lines.size(); i++) {
            Matcher m = OTHER_METHOD.matcher(lines.get(i));
            if (m.find() && face.contains(m.group(1))) {
                tell(i + 1, "the name of a public method is borne by another one: " + m.group(1));
            }
        }
    }

    private static void lengths(List<String> lines) {
        int start = -1;
        for (int i = 0; i < lines.size(); i++) {
            String line = lines.get(i);
            if (line.contains("(") && line.endsWith("{") && (line.matches(" {4}\\S.*") || line.matches(" {8}\\S.*")) && start < 0) {
                start = i;
            }
            if (start >= 0 && line.equals(lines.get(start).replaceAll("\\S.*", "") + "}")) {
                if (i - start + 1 > LONGEST_METHOD) {
                    tell(start + 1, "a method of " + (i - start + 1) + " lines");
                }
                start = -1;
            }
        }
    }
}
