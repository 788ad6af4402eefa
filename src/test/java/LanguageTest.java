import java.io.IOException;
import java.nio.file.Files;
import java.nio.file.Path;

/** Looks for what ../shared/LANGUAGE.md leaves out, as far as it can be seen in single words and lines. */
public final class LanguageTest {
    private static final String[] BANNED = {"import ", "package ", "->", "::", "catch", "try {", "finally", "synchronized",
        "assert", "static {", "Exact(", "Object", "System.", "Random", "Thread", "record ", "var ", "protected", "hashCode",
        "equals(", "toString"};
    private static final int LONGEST_LINE = 120;
    private static final int LONGEST_METHOD = 60;

    public static void main(String[] args) throws IOException {
        String source = Files.readString(Path.of("src/main/java/PortolanChart.java"));
        String[] lines = source.split("\n");
        StringBuilder code = new StringBuilder();
        for (int i = 0; i < lines.length; i++) {
            Check.same("line " + (i + 1) + " is short", true, lines[i].length() <= LONGEST_LINE);
            Check.same("line " + (i + 1) + " has plain signs", true, lines[i].matches("[ -~]*"));
            if (!lines[i].strip().startsWith("*") && !lines[i].strip().startsWith("/")) {
                code.append(lines[i]).append('\n');
            }
            if (lines[i].matches(" +[\\w ]+\\(.*\\).*\\{") && !lines[i].matches(" +(if|for|switch|while|else) .*")) {
                Check.same("the method at line " + (i + 1) + " is short", true, end(lines, i) - i <= LONGEST_METHOD);
            }
        }
        for (String word : BANNED) {
            Check.same("the word " + word, -1, code.indexOf(word));
        }
        Check.end();
    }

    private static int end(String[] lines, int start) {
        String close = " ".repeat(lines[start].length() - lines[start].stripLeading().length()) + "}";
        int line = start;
        while (line < lines.length && !lines[line].equals(close)) {
            line++;
        }
        return line;
    }
}
