import java.io.IOException;
import java.nio.file.Files;
import java.nio.file.Path;
import java.util.ArrayList;
import java.util.List;
import java.util.regex.Matcher;
import java.util.regex.Pattern;

/** What a reader of the text can see of LANGUAGE.md; it runs at the project's root. */
public final class LanguageTest {
    private static final String[] IMPORTS = {
        "import java.util.ArrayList;", "import java.util.Arrays;", "import java.util.NoSuchElementException;",
    };
    private static final String[] RULED_OUT = {
        "->", "::", "\\bsynchronized\\b", "\\bfinally\\b", "\\bassert\\b", "\\bpackage\\b", "Exact\\(", "\\bprotected\\b",
        "\\bcatch\\b", "\\.hashCode\\(", "\\.toString\\(", "\\bSystem\\.(?!arraycopy)", "\\bThread\\b", "\\bvar\\b",
        "while \\(true\\)", "for \\(;;\\)", "^\\s*static \\{", "[^\\x00-\\x7f]",
    };
    private static final int LONGEST = 60;

    public static void main(String[] args) throws IOException {
        Due due = new Due();
        List<String> lines = Files.readAllLines(Path.of("src/main/java/TrainDesk.java"));
        List<String> imports = new ArrayList<>();
        int classes = 0;
        for (int i = 0; i < lines.size(); i++) {
            String line = lines.get(i);
            if (line.startsWith("import")) {
                imports.add(line);
            }
            classes += line.matches(".*\\bclass \\w+ \\{") ? 1 : 0;
            for (String sign : RULED_OUT) {
                due.is("line " + (i + 1) + " has " + sign, Pattern.compile(sign).matcher(line).find(), false);
            }
        }
        due.is("imports " + imports, imports.equals(List.of(IMPORTS)), true);
        due.is("classes, twelve at most: " + classes, classes >= 1 && classes <= 12, true);
        methods(due, lines);
        due.end("LanguageTest");
    }

    private static void methods(Due due, List<String> lines) {
        Pattern head = Pattern.compile("^( {4}| {8})(?! )[\\w<>\\[\\] ]+\\((.*)\\)[\\w ]* \\{$");
        int seen = 0;
        for (int i = 0; i < lines.size(); i++) {
            Matcher m = head.matcher(lines.get(i));
            if (m.matches() && !lines.get(i).trim().matches("(if|for|while|switch) .*")) {
                seen++;
                int end = i;
                while (end < lines.size() && !lines.get(end).equals(m.group(1) + "}")) {
                    end++;
                }
                due.is("line " + (i + 1) + ": a method that is too long", end - i > LONGEST, false);
                due.is("line " + (i + 1) + ": parameters above seven", m.group(2).split(",").length > 7, false);
            }
        }
        due.is("methods were found: " + seen, seen > 24, true);
    }
}
