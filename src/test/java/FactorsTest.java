/** Promises 9 to 13: the factors. */
public final class FactorsTest {
    private static final int LOW = Integer.MIN_VALUE;
    private static final int HIGH = Integer.MAX_VALUE;

    public static void main(String[] args) {
        factors();
        order();
        toldUntilCalledAgain();
        factorAndPart();
        isIrreducible();
        ofDegree();
        hardOnes();
        Check.finish("FactorsTest");
    }

    private static void dueFactors(String want, int... coefficients) {
        FactorDesk desk = Check.desk(coefficients);
        int count = desk.factors();
        Check.due("factors", Check.told(desk), want);
        Check.due("count", count, want.isEmpty() ? 0 : want.split("\\^").length - 1);
    }

    private static void factors() {
        dueFactors("", 12);
        dueFactors("", LOW);
        dueFactors("[0, 1]^1", 0, 5);
        dueFactors("[0, 1]^12", 0, 0, 0, 0, 0, 0, 0, 0, 0, 0, 0, 0, -3);
        dueFactors("[-1, 1]^1 [1, 1]^1", 6, 0, -6);
        dueFactors("[1, 1]^12", 1, 12, 66, 220, 495, 792, 924, 792, 495, 220, 66, 12, 1);
        dueFactors("[-3, 2]^2 [1, 0, 1]^1", 9, -12, 13, -12, 4);
        dueFactors("[0, 1]^2 [1, 1]^1 [1, 0, 1]^3", 0, 0, 1, 1, 3, 3, 3, 3, 1, 1);
        dueFactors("[2147483647, -2147483648, 2147483647]^1", HIGH, LOW, HIGH);
        dueFactors("[1, 0, 0, 0, 0, 0, 0, 0, 0, 0, 0, 0, 2147483647]^1",
                1, 0, 0, 0, 0, 0, 0, 0, 0, 0, 0, 0, HIGH);
    }

    private static void order() {
        dueFactors("[-2, 1]^1 [-1, 1]^1 [0, 1]^1 [1, 1]^1 [2, 1]^1", 0, 4, 0, -5, 0, 1);
        dueFactors("[5, 1]^1 [-9, 2]^1 [-1, 2]^1 [7, 2]^1 [1, 3]^1", 315, 398, -1823, -518, 92, 24);
        dueFactors("[0, 1]^1 [1, -1, 1]^1 [-7, 1, 1]^1 [1, 1, 1]^1", 0, -7, 1, -6, 1, -6, 1, 1);
        dueFactors("[-1, 1]^1 [1, 1]^1 [1, -1, 1]^1 [1, 0, 1]^1 [1, 1, 1]^1 [1, 0, -1, 0, 1]^1",
                1, 0, 0, 0, 0, 0, 0, 0, 0, 0, 0, 0, -1);
    }

    private static void toldUntilCalledAgain() {
        FactorDesk desk = Check.desk(-1, 0, 1);
        Check.due("before factors()", Check.told(desk), "");
        desk.factors();
        Check.put(desk, 1, 0, 1);
        desk.take();
        desk.isIrreducible();
        desk.ofDegree(2);
        Check.due("after take()", Check.told(desk), "[-1, 1]^1 [1, 1]^1");
        Check.put(desk, 0, 1);
        desk.times();
        Check.due("after times()", Check.told(desk), "[-1, 1]^1 [1, 1]^1");
        Check.due("factors()", desk.factors(), 2);
        Check.due("after factors()", Check.told(desk), "[0, 1]^1 [1, 0, 1]^1");
        Check.due("factors() again", desk.factors(), 2);
        Check.put(desk, 4);
        desk.take();
        Check.due("factors() of a number", desk.factors(), 0);
        Check.due("told of a number", Check.told(desk), "");
    }

    private static void factorAndPart() {
        FactorDesk desk = Check.desk(9, -12, 13, -12, 4);
        for (int what = 0; what <= 1; what++) {
            int w = what;
            Check.due("before factors()", Check.answer(() -> desk.factor(0, w)), "NoSuchElementException");
            Check.due("before factors()", Check.answer(() -> desk.part(0, w)), "NoSuchElementException");
        }
        desk.factors();
        Check.due("factor(0, 0)", desk.factor(0, 0), 1);
        Check.due("factor(0, 1)", desk.factor(0, 1), 2);
        Check.due("factor(1, 0)", desk.factor(1, 0), 2);
        Check.due("factor(1, 1)", desk.factor(1, 1), 1);
        Check.due("part(0, 0)", desk.part(0, 0), -3);
        Check.due("part(0, 1)", desk.part(0, 1), 2);
        Check.due("part(1, 1)", desk.part(1, 1), 0);
        int[][] wrong = {{2, 0}, {-1, 0}, {0, 2}, {0, -1}, {1, 3}, {12, 1}, {HIGH, 0}, {LOW, 1}, {0, LOW}, {0, HIGH}};
        for (int[] pair : wrong) {
            if (pair[0] != 1) {
                Check.due("factor(" + pair[0] + ", " + pair[1] + ")",
                        Check.answer(() -> desk.factor(pair[0], pair[1])), "NoSuchElementException");
            }
            Check.due("part(" + pair[0] + ", " + pair[1] + ")",
                    Check.answer(() -> desk.part(pair[0], pair[1])), "NoSuchElementException");
        }
        Check.due("factor(1, 2)", Check.answer(() -> desk.factor(1, 2)), "NoSuchElementException");
        Check.due("after all that", Check.state(desk),
                "[9, -12, 13, -12, 4] [-3, 2]^2 [1, 0, 1]^1 [1]");
    }

    private static void dueIrreducible(boolean want, int... coefficients) {
        FactorDesk desk = Check.desk(coefficients);
        Check.due("isIrreducible of " + Check.polynomial(desk), desk.isIrreducible(), want);
        desk.factors();
        Check.due("isIrreducible again", desk.isIrreducible(), want);
    }

    private static void isIrreducible() {
        dueIrreducible(true, 0, 1);
        dueIrreducible(true, -2, 0, 1);
        dueIrreducible(false, 2, 0, -1);
        dueIrreducible(false, -4, 0, 2);
        dueIrreducible(false, 0, 2);
        dueIrreducible(false, 0, -1);
        dueIrreducible(false, 1);
        dueIrreducible(false, -1);
        dueIrreducible(false, 5);
        dueIrreducible(false, 1, 2, 1);
        dueIrreducible(false, 0, 0, 1);
        dueIrreducible(false, 4, 0, 0, 0, 1);
        dueIrreducible(true, 1, 0, 0, 0, 1);
        dueIrreducible(true, LOW, HIGH);
        dueIrreducible(false, HIGH, LOW);
        dueIrreducible(false, HIGH, LOW, 0, HIGH, LOW);
        dueIrreducible(true, 576, 0, -960, 0, 352, 0, -40, 0, 1);
        dueIrreducible(true, 1, 1, 1, 1, 1, 1, 1, 1, 1, 1, 1, 1, 1);
    }

    private static void ofDegree() {
        FactorDesk desk = Check.desk(0, 0, 1, 1, 3, 3, 3, 3, 1, 1);
        Check.due("ofDegree(1)", desk.ofDegree(1), 3);
        Check.due("ofDegree(2)", desk.ofDegree(2), 3);
        Check.due("ofDegree(3)", desk.ofDegree(3), 0);
        Check.due("ofDegree(12)", desk.ofDegree(12), 0);
        for (int wrong : new int[] {0, 13, -1, LOW, HIGH}) {
            Check.due("ofDegree(" + wrong + ")", Check.answer(() -> desk.ofDegree(wrong)),
                    "IllegalArgumentException");
        }
        Check.due("told stays", Check.told(desk), "");
        desk.factors();
        Check.put(desk, 1, 0, 0, 0, 0, 0, 0, 0, 0, 0, 0, 0, 7);
        desk.take();
        Check.due("of the polynomial of now", desk.ofDegree(12), 1);
        Check.due("of the polynomial of now", desk.ofDegree(1), 0);
        Check.due("told stays", Check.told(desk), "[0, 1]^2 [1, 1]^1 [1, 0, 1]^3");
        Check.due("ofDegree of a number", Check.desk(-5).ofDegree(1), 0);
    }

    private static void hardOnes() {
        // they fall apart modulo every prime
        dueFactors("[1, 0, 0, 0, 0, 0, 0, 0, 1]^1", 1, 0, 0, 0, 0, 0, 0, 0, 1);
        dueFactors("[1, 0, -4, 0, 1]^1 [1, 0, -1, 0, 1]^1 [1, 0, 0, 0, 1]^1",
                1, 0, -5, 0, 7, 0, -10, 0, 7, 0, -5, 0, 1);
        // the small primes all divide the leading coefficient, or the discriminant
        dueFactors("[1, 9]^1 [-1, 223092870]^1", -1, 223092861, 2007835830);
        dueFactors("[223092870, 0, 0, 0, 0, 0, 0, 0, 0, 0, 0, 0, 1]^1",
                223092870, 0, 0, 0, 0, 0, 0, 0, 0, 0, 0, 0, 1);
        // the first prime above 2^44 divides the discriminant
        dueFactors("[-6647, 1, 1984976611]^1", -6647, 1, 1984976611);
        // twelve pieces modulo almost every prime
        dueFactors("[-6, 1]^1 [-5, 1]^1 [-4, 1]^1 [-3, 1]^1 [-2, 1]^1 [-1, 1]^1 [0, 1]^1 [1, 1]^1"
                + " [2, 1]^1 [3, 1]^1 [4, 1]^1 [5, 1]^1",
                0, 86400, -14400, -126456, 21076, 45870, -7645, -6138, 1023, 330, -55, -6, 1);
        // factors with coefficients that are no ints
        dueFactors("[1, 1]^3 [1, 1, 1]^1 [-2147480650, 9663662917, -21474806481, 31138469399,"
                + " -31138469394, 21474806482, -9663662915, 2147480646]^1",
                -2147480650, 1073740317, 2147480637, -2147480656, 2147480654, 1073740350, 41,
                -1073740283, -2147480624, 2147480651, -2147480656, -1073740331, 2147480646);
    }
}
