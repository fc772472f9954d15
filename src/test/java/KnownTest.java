import java.nio.file.Files;
import java.nio.file.Path;

/**
 * Promises 8 to 16 on polynomials whose answers another program (SymPy) has told. A line of the
 * data: polynomial | tape | content | factors | isIrreducible | common | divides.
 */
public final class KnownTest {
    public static void main(String[] args) throws Exception {
        int lines = 0;
        for (String line : Files.readAllLines(Path.of("src/test/data/known.txt"))) {
            if (!line.startsWith("#")) {
                compare(line);
                lines++;
            }
        }
        Check.due("lines", lines > 500, true);
        Check.finish("KnownTest");
    }

    private static void compare(String line) {
        String[] field = line.split("\\|", -1);
        FactorDesk desk = Check.desk(numbers(field[0]));
        Check.due("content of " + field[0], desk.content(), field[2]);
        Check.due("isIrreducible of " + field[0], desk.isIrreducible(), field[4]);
        int count = desk.factors();
        Check.due("factors of " + field[0], Check.told(desk), field[3]);
        int[] ofDegree = new int[13];
        for (int i = 0; i < count; i++) {
            ofDegree[desk.factor(i, 0)] += desk.factor(i, 1);
        }
        for (int degree = 1; degree <= 12; degree++) {
            Check.due("ofDegree(" + degree + ") of " + field[0], desk.ofDegree(degree), ofDegree[degree]);
        }
        Check.put(desk, numbers(field[1]));
        desk.common();
        Check.due("common of " + field[0] + " and " + field[1], Check.divisor(desk), field[5]);
        Check.put(desk, numbers(field[1]));
        Check.due(field[1] + " divides " + field[0], desk.divides(), field[6]);
    }

    private static int[] numbers(String text) {
        String[] words = text.split(" ");
        int[] row = new int[words.length];
        for (int i = 0; i < row.length; i++) {
            row[i] = Integer.parseInt(words[i]);
        }
        return row;
    }
}
