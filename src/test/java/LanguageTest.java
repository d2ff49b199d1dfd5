import java.io.IOException;
import java.nio.file.Files;
import java.nio.file.Path;
import java.util.List;
import java.util.regex.Matcher;
import java.util.regex.Pattern;

/** The rules of LANGUAGE.md that can be seen from the source's text; it runs from the project's folder. */
public final class LanguageTest {
    private static final Path SOURCE = Path.of("src/main/java/SparkBoards.java");
    private static final Pattern HEAD = Pattern.compile("^( {4}| {8})(?:[\\w\\[\\]]+ )*"
        + "(?!if|for|while|switch)\\b(\\w+)\\(([^)]*)\\)[^;=]*\\{$");
    private static final String FACE = "SparkBoards setBoard set line ring stamp spark lamp pass told about count way "
        + "period until foresee advise mean digest";

    public static void main(String[] args) throws IOException {
        String text = Files.readString(SOURCE);
        Check.due("signs beyond 127", text.chars().filter(c -> c > 127).count(), 0);
        String code = text.replaceAll("\"[^\"\n]*\"", "\"\"").replaceAll("//[^\n]*", "").replaceAll("(?s)/\\*.*?\\*/", "");
        words(code);
        library(code);
        members(code.lines().toList());
        Check.end();
    }

    private static void words(String code) {
        String[] forbidden = {"->", "::", "\\btry\\b", "\\bcatch\\b", "\\bfinally\\b", "\\bsynchronized\\b",
            "\\bassert\\b", "\\bpackage\\b", "\\bprotected\\b", "static \\{", "Exact\\(", "\\bvar\\b", "\\bNaN\\b", "@"};
        for (String word : forbidden) {
            Check.due("rules 1 to 6, " + word, found(code, word), 0);
        }
        Check.due("rule 6, throws outside the list", found(code, "throw (?!new (IllegalArgument|IndexOutOfBounds"
            + "|IllegalState)Exception\\(\"\"\\);)"), 0);
        Check.due("rule 5, static fields that are not final", found(code, "\\bstatic (?!final|int \\w+\\(|long \\w+\\("
            + "|boolean \\w+\\()"), 0);
        Check.due("rule 1, public members beside the face", found(code, "\\bpublic (?!final class SparkBoards "
            + "|SparkBoards\\(|(int|double|long) (" + FACE.replace(' ', '|') + ")\\()"), 0);
        Check.due("rule 11, more than 12 classes", found(code, "\\bclass \\w+") <= 12 ? 0 : 1, 0);
    }

    private static void library(String code) {
        Check.due("rule 4, imports", found(code, "\\bimport (?!java\\.util\\.Arrays;)"), 0);
        Check.due("rule 4, calls", found(code, "\\b(Math|Integer|Long|System|Arrays)\\."
            + "(?!max\\(|min\\(|abs\\(|compare\\(|arraycopy\\(|fill\\()"), 0);
        Check.due("rule 4, other classes", found(code, "\\b(?!Math|Integer|System|Arrays)[A-Z][a-z]+\\.(?!(next|hasPlace)\\()"), 0);
    }

    // Methods' heads are told from other lines by how far they are set in.
    private static void members(List<String> lines) {
        String in = "";
        int start = 0;
        for (int i = 0; i < lines.size(); i++) {
            Matcher head = HEAD.matcher(lines.get(i));
            if (head.find()) {
                in = head.group(2);
                start = i;
                boolean isPublic = lines.get(i).contains("public ");
                Check.due("rule 11, parameters of " + in, head.group(3).split(",").length <= 7 ? 0 : 1, 0);
                Check.due("rule 1, a name of the face: " + in, !isPublic && List.of(FACE.split(" ")).contains(in) ? 1 : 0, 0);
            }
            Check.due("rule 11, the length of " + in, in.isEmpty() || i - start <= 60 ? 0 : 1, 0);
            boolean isMade = Character.isUpperCase(in.isEmpty() ? 'a' : in.charAt(0));
            boolean makes = found(lines.get(i), "(?<!throw )\\bnew\\b") > 0;
            Check.due("rule 12, made at a call, line " + (i + 1), makes && !isMade ? 1 : 0, 0);
            Check.due("rule 6, thrown in a constructor, line " + (i + 1), isMade && lines.get(i).contains("throw ") ? 1 : 0, 0);
        }
    }

    private static long found(String text, String pattern) {
        return Pattern.compile(pattern).matcher(text).results().count();
    }
}
