import java.io.IOException;
import java.nio.file.Files;
import java.nio.file.Path;
import java.util.List;
import java.util.regex.Matcher;
import java.util.regex.Pattern;

/** Those rules of ../shared/LANGUAGE.md that can be seen in the text of the program. */
public final class LanguageTest {
    private static final Path PROGRAM = Path.of("src/main/java/RoadOffice.java");
    private static final String[] RULED_OUT = {
        "->", "::", "\\btry\\b", "\\bcatch\\b", "\\bfinally\\b", "\\bsynchronized\\b", "\\bassert\\b", "Exact\\(",
        "\\bdouble\\b", "\\bfloat\\b", "\\bSystem\\.(?!arraycopy)", "\\bObject\\b", "\\bvar\\b", "\\bpackage\\b",
        "\\bprotected\\b", "\\bstatic \\{", "\\bgetMessage\\b", "\\bwhile \\(true\\)", "for \\(;;\\)",
        "import (?!java\\.util\\.(Arrays|NoSuchElementException);)", "throw new (?!NoSuchElementException\\(\")",
    };

    public static void main(String[] args) throws IOException {
        List<String> lines = Files.readAllLines(PROGRAM);
        String code = String.join("\n", lines).replaceAll("(?s)/\\*.*?\\*/", "").replaceAll("//[^\n]*", "");
        for (String ruledOut : RULED_OUT) {
            Matcher found = Pattern.compile(ruledOut).matcher(code);
            Desk.due("found " + ruledOut, found.find(), false);
        }
        Matcher classes = Pattern.compile("\\b(class|record|enum|interface) [A-Z]").matcher(code);
        Desk.due("at most twelve classes", classes.results().count() <= 12, true);
        Matcher long8 = Pattern.compile("\\w\\((?:\\w[^(),]*,){7,}[^(),]*\\) (\\{|throws)").matcher(code);
        Desk.due("at most seven parameters", long8.find(), false);
        methods(lines);
        Desk.leave();
    }

    private static void methods(List<String> lines) {
        int start = -1;
        for (int i = 0; i < lines.size(); i++) {
            String line = lines.get(i);
            Desk.due("line " + (i + 1) + " is plain text", line.matches("[ -~]*"), true);
            if (line.matches(" {4,8}[\\w<][^=;]*\\(.*\\).* \\{")) {
                start = i;
            } else if (line.matches(" {4,8}\\}") && start >= 0) {
                Desk.due("the method at line " + (start + 1) + " is short", i - start <= 60, true);
                start = -1;
            }
            // All calls of a run live in one room: rows are made once, and used again.
            boolean makes = line.replace("throw new ", "").matches(".*\\bnew \\w.*");
            boolean inConstructor = start >= 0 && lines.get(start).matches(" +(public )?[A-Z]\\w*\\(.*");
            Desk.due("line " + (i + 1) + " makes an object behind a constructor", makes && !inConstructor, false);
        }
    }
}
