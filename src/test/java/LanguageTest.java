import java.io.IOException;
import java.nio.file.Files;
import java.nio.file.Path;
import java.util.List;
import java.util.regex.Matcher;
import java.util.regex.Pattern;

/**
 * Words that LANGUAGE.md rules out, or that the class does without, must not stand in it; the argument is the path of
 * FieldFilter.java.
 */
public final class LanguageTest {
    private static final String[] RULED_OUT = {
        "\\bimport\\b", "\\bpackage\\b", "->", "::", "\\bcatch\\b", "\\bfinally\\b", "\\bassert\\b",
        "\\bsynchronized\\b",
        "\\w+Exact\\b", "\\bprotected\\b", "\\bRandom\\b", "\\bSystem\\.(?!arraycopy)", "\\bThread\\b", "\\bNaN\\b",
        "\\bdouble\\b", "\\bfloat\\b", "\\bvar\\b", "\\bequals\\b", "\\bhashCode\\b", "\\btoString\\b",
        "\\bMath\\.(?!(floorMod|max|min|abs)\\b)", "static\\s*\\{", "@\\w+"};

    public static void main(String[] args) throws IOException {
        Path source = Path.of(args.length == 0 ? "src/main/java/FieldFilter.java" : args[0]);
        String text = Files.readString(source);
        String code = text.replaceAll("(?s)/\\*.*?\\*/", "").replaceAll("//[^\n]*", "");
        for (String words : RULED_OUT) {
            Matcher found = Pattern.compile(words).matcher(code);
            Check.that("ruled out: " + words, !found.find());
        }
        thrown(code);
        lengths(Files.readAllLines(source));
        Check.that("a sign above 127", text.chars().allMatch(sign -> sign < 128));
        Check.close("LanguageTest");
    }

    private static void thrown(String code) {
        Matcher found = Pattern.compile("\\bthrow\\b[^;]*;").matcher(code);
        String due = "throw new (IllegalState|IllegalArgument|IndexOutOfBounds)Exception\\(\"[^\"]*\"\\);";
        while (found.find()) {
            Check.that("rule 6: " + found.group(), found.group().matches(due));
        }
    }

    private static void lengths(List<String> lines) {
        int start = -1;
        for (int line = 0; line < lines.size(); line++) {
            String text = lines.get(line);
            Check.that("line " + (line + 1) + " is longer than 120", text.length() <= 120);
            int indent = text.length() - text.stripLeading().length();
            if ((indent == 4 || indent == 8) && text.endsWith("{") && text.contains("(")) {
                start = line;
            } else if ((indent == 4 || indent == 8) && text.strip().equals("}") && start >= 0) {
                Check.that("the method at line " + (start + 1) + " is longer than 60 lines", line - start <= 60);
                start = -1;
            }
        }
    }
}
