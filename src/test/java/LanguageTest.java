import java.nio.file.Files;
import java.nio.file.Path;
import java.util.List;

/** Words that LANGUAGE.md keeps out of the program, and the length of its methods. */
public final class LanguageTest {
    private static final List<String> OUT = List.of("->", "::", "Exact(", "synchronized", "assert ",
            "finally", "try ", "catch", "static {", "Integer.", "Long.", "BigInteger", "System.out",
            "System.nanoTime", "System.currentTimeMillis", "Random", "equals(", "hashCode(",
            "toString(", "goto ", "double ", "float ", "instanceof", "protected ", "package ");

    public static void main(String[] args) throws Exception {
        List<String> lines = Files.readAllLines(Path.of("src/main/java/FactorDesk.java"));
        int start = 0;
        int classes = 0;
        for (int i = 0; i < lines.size(); i++) {
            String line = lines.get(i);
            String code = line.strip();
            boolean remark = code.startsWith("*") || code.startsWith("/*") || code.startsWith("//");
            for (String word : OUT) {
                Check.due("line " + (i + 1) + " has " + word, !remark && line.contains(word), false);
            }
            if (code.startsWith("import ")) {
                Check.due("line " + (i + 1), code, "import java.util.NoSuchElementException;");
            }
            classes += !remark && code.contains(" class ") ? 1 : 0;
            if (line.isEmpty()) {
                start = i;
            }
            Check.due("line " + (i + 1) + " in a piece of 60 lines", i - start <= 60, true);
        }
        Check.due("twelve classes at most (" + classes + ")", classes <= 12, true);
        Check.finish("LanguageTest");
    }
}
