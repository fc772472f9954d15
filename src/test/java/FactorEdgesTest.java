import java.util.Arrays;
import java.util.function.Consumer;

/**
 * The boundary cases of promises 9 to 13, sentence by sentence; a label begins with the promise's
 * number, or with T for the terms.
 */
public final class FactorEdgesTest {
    private static final int LOW = Integer.MIN_VALUE;
    private static final int HIGH = Integer.MAX_VALUE;
    private static final String ARGUMENT = "IllegalArgumentException";
    private static final String ELEMENT = "NoSuchElementException";
    private static final int[] TWELVE_ROOTS =
            {0, 86400, -14400, -126456, 21076, 45870, -7645, -6138, 1023, 330, -55, -6, 1};

    public static void main(String[] args) {
        countOfDifferentOnes();
        order();
        noneAtFirst();
        toldWhateverBecomes();
        calledAgain();
        factor();
        part();
        largeParts();
        isIrreducible();
        ofDegree();
        ofDegreeOfNow();
        Check.finish("FactorEdgesTest");
    }

    private static int[] row(int... coefficients) {
        return coefficients;
    }

    private static int[] power(int top, int c) {
        int[] result = new int[top + 1];
        result[top] = c;
        return result;
    }

    private static void dueFactors(String want, int... coefficients) {
        FactorDesk desk = Check.desk(coefficients);
        String before = Check.polynomial(desk);
        int count = want.isEmpty() ? 0 : want.split("\\^").length - 1;
        Check.due("9: factors() of " + before, desk.factors(), count);
        Check.due("9: told of " + before, Check.told(desk), want);
        Check.due("9: the polynomial stays", Check.polynomial(desk), before);
    }

    private static void countOfDifferentOnes() {
        for (int number : row(1, -1, 2, -6, LOW, HIGH)) {
            dueFactors("", number);
            dueFactors("[0, 1]^1", 0, number);
            dueFactors("[1, 1]^1", number, number);
        }
        for (int top = 1; top <= 12; top++) {
            dueFactors("[0, 1]^" + top, power(top, -5));
        }
        dueFactors("[-1, 1]^12", 1, -12, 66, -220, 495, -792, 924, -792, 495, -220, 66, -12, 1);
        dueFactors("[1, 0, 1]^6", 3, 0, 18, 0, 45, 0, 60, 0, 45, 0, 18, 0, 3);
        dueFactors("[1, 1, 0, 0, 0, 0, 1]^2", 1, 2, 1, 0, 0, 0, 2, 2, 0, 0, 0, 0, 1);
        dueFactors("[-2, 0, 0, 0, 0, 0, 0, 0, 0, 0, 0, 0, 1]^1", 2, 0, 0, 0, 0, 0, 0, 0, 0, 0, 0, 0, -1);
        dueFactors("[-1, 1]^1", 1, -1);
        dueFactors("[-6, 1]^1 [-5, 1]^1 [-4, 1]^1 [-3, 1]^1 [-2, 1]^1 [-1, 1]^1 [0, 1]^1 [1, 1]^1"
                + " [2, 1]^1 [3, 1]^1 [4, 1]^1 [5, 1]^1", TWELVE_ROOTS);
        dueFactors("[2147483647, 2147483646]^1", HIGH, HIGH - 1);
        dueFactors("[-2147483647, 2147483646]^1", -HIGH, HIGH - 1);
        dueFactors("[-2147483647, 2147483648]^1", HIGH, LOW);
        dueFactors("[2147483648, 2147483647]^1", LOW, -HIGH);
        dueFactors("[-2147483648, 2147483647]^1", LOW, HIGH);
    }

    /** Takes the product of the factors, which stand in the order that is due. */
    private static void dueOrder(int[]... factors) {
        long[] product = {1};
        StringBuilder want = new StringBuilder();
        for (int[] factor : factors) {
            long[] next = new long[product.length + factor.length - 1];
            for (int i = 0; i < next.length; i++) {
                for (int j = 0; j < factor.length; j++) {
                    next[i] += i >= j && i - j < product.length ? product[i - j] * factor[j] : 0;
                }
            }
            product = next;
            want.append(Arrays.toString(factor)).append("^1 ");
        }
        FactorDesk desk = new FactorDesk();
        for (long c : product) {
            desk.put(Math.toIntExact(c));
        }
        desk.take();
        Check.due("T: order: factors()", desk.factors(), factors.length);
        Check.due("T: order", Check.told(desk), want.toString().trim());
    }

    private static void order() {
        // by degrees, whatever the coefficients are
        dueOrder(row(9, 7), row(1, 0, 1));
        dueOrder(row(1, 9), row(-2, 0, 1), row(-3, 0, 0, 1), row(-5, 0, 0, 0, 1));
        dueOrder(row(0, 1), row(1, 5, 0, 0, 0, 0, 0, 0, 0, 0, 0, 2));
        // by the highest coefficient, then downwards
        dueOrder(row(9, 1), row(-9, 2), row(-8, 3));
        dueOrder(row(-1, 1), row(0, 1), row(1, 1), row(-1, 2), row(1, 2));
        dueOrder(row(9, -2, 1), row(9, -1, 1), row(-9, 1, 1), row(-8, 1, 1), row(-9, 2, 1));
        dueOrder(row(-3, 0, 1), row(-2, 0, 1), row(1, 0, 1), row(2, 0, 1), row(3, 0, 1));
        dueOrder(row(5, 1, 0, 1), row(-7, 0, 1, 1), row(-5, 1, 1, 1), row(-9, 0, 0, 2));
        // far apart, so that a difference of ints would turn round
        dueOrder(row(-HIGH, 1), row(1, 1));
        dueOrder(row(-1, 1), row(HIGH, 1));
        dueOrder(row(-1, 1), row(1, HIGH));
        dueOrder(row(-HIGH, 1), row(-1, 1), row(1, 1));
        dueOrder(row(-1, 1), row(1, 1), row(HIGH, 1));
        dueOrder(row(-HIGH, 1), row(1, 1), row(1, 0, 1));
        dueOrder(row(-1, 1), row(HIGH, 1), row(1, 0, 1));
        dueOrder(row(-HIGH, 0, 1), row(1, 0, 1));
        dueOrder(row(-46337, 1), row(46339, 1));
    }

    private static void noneAtFirst() {
        FactorDesk desk = Check.desk(TWELVE_ROOTS);
        for (int i : row(0, 1, 11, 12, -1)) {
            Check.due("9: none at first: factor(" + i + ", 0)", Check.answer(() -> desk.factor(i, 0)), ELEMENT);
            Check.due("9: none at first: factor(" + i + ", 1)", Check.answer(() -> desk.factor(i, 1)), ELEMENT);
            Check.due("9: none at first: part(" + i + ", 0)", Check.answer(() -> desk.part(i, 0)), ELEMENT);
        }
        desk.isIrreducible();
        desk.ofDegree(1);
        Check.due("9: only factors() tells factors", Check.told(desk), "");
    }

    private static void staysTold(String name, Consumer<FactorDesk> call) {
        FactorDesk desk = Check.desk(0, 0, -1, 0, 1);
        desk.factors();
        Check.put(desk, 2, 0, 1);
        call.accept(desk);
        Check.due("9: told after " + name, Check.told(desk), "[-1, 1]^1 [0, 1]^2 [1, 1]^1");
    }

    private static void toldWhateverBecomes() {
        staysTold("put()", d -> d.put(1));
        staysTold("clear()", FactorDesk::clear);
        staysTold("take()", FactorDesk::take);
        staysTold("times()", FactorDesk::times);
        staysTold("common()", FactorDesk::common);
        staysTold("divides()", FactorDesk::divides);
        staysTold("isIrreducible()", FactorDesk::isIrreducible);
        staysTold("ofDegree()", d -> d.ofDegree(2));
        staysTold("take(), isIrreducible()", d -> {
            d.take();
            d.isIrreducible();
        });
        staysTold("times(), ofDegree()", d -> {
            d.times();
            d.ofDegree(2);
        });
        staysTold("take(), content(), value()", d -> {
            d.take();
            d.content();
            d.value(3, 7);
        });
    }

    private static void retake(FactorDesk desk, int... coefficients) {
        Check.put(desk, coefficients);
        desk.take();
    }

    private static void calledAgain() {
        FactorDesk desk = Check.desk(TWELVE_ROOTS);
        Check.due("9: twelve", desk.factors(), 12);
        Check.due("9: the same again", desk.factors(), 12);
        retake(desk, 4, 0, 4);
        Check.due("9: one", desk.factors(), 1);
        Check.due("9: the old ones are gone", Check.told(desk), "[1, 0, 1]^1");
        Check.due("9: factor(1, 0) is gone", Check.answer(() -> desk.factor(1, 0)), ELEMENT);
        Check.due("9: part(1, 0) is gone", Check.answer(() -> desk.part(1, 0)), ELEMENT);
        Check.due("9: part(11, 0) is gone", Check.answer(() -> desk.part(11, 0)), ELEMENT);
        retake(desk, 4);
        Check.due("9: none", desk.factors(), 0);
        Check.due("9: factor(0, 0) is gone", Check.answer(() -> desk.factor(0, 0)), ELEMENT);
        Check.due("9: part(0, 0) is gone", Check.answer(() -> desk.part(0, 0)), ELEMENT);
        retake(desk, 1, 1);
        Check.put(desk, 1, 1);
        desk.times();
        Check.due("9: of a product", desk.factors(), 1);
        Check.due("9: of a product", Check.told(desk), "[1, 1]^2");
        Check.put(desk, -1, 1);
        desk.times();
        Check.due("9: of a longer product", desk.factors(), 2);
        Check.due("9: of a longer product", Check.told(desk), "[-1, 1]^1 [1, 1]^2");
    }

    private static void factor() {
        FactorDesk desk = Check.desk(TWELVE_ROOTS);
        desk.factors();
        for (int i = 0; i < 12; i++) {
            Check.due("10: degree of factor " + i, desk.factor(i, 0), 1);
            Check.due("10: multiplicity of factor " + i, desk.factor(i, 1), 1);
        }
        for (int i : row(-1, 12, 13, LOW, HIGH)) {
            for (int what = -1; what <= 2; what++) {
                int w = what;
                Check.due("10: factor(" + i + ", " + w + ")", Check.answer(() -> desk.factor(i, w)), ELEMENT);
                Check.due("11: part(" + i + ", " + w + ")", Check.answer(() -> desk.part(i, w)), ELEMENT);
            }
        }
        for (int what : row(-1, 2, 3, LOW, HIGH)) {
            for (int i : row(0, 11)) {
                Check.due("10: factor(" + i + ", " + what + ")", Check.answer(() -> desk.factor(i, what)),
                        ELEMENT);
            }
        }
        retake(desk, power(12, 3));
        desk.factors();
        Check.due("10: multiplicity 12", desk.factor(0, 1), 12);
        Check.due("10: of a degree", desk.factor(0, 0), 1);
        Check.due("10: no second one", Check.answer(() -> desk.factor(1, 0)), ELEMENT);
        retake(desk, -2, 0, 0, 0, 0, 0, 0, 0, 0, 0, 0, 0, 1);
        desk.factors();
        Check.due("10: degree 12", desk.factor(0, 0), 12);
        Check.due("10: multiplicity of it", desk.factor(0, 1), 1);
    }

    private static void part() {
        FactorDesk desk = Check.desk(0, -3, 0, 0, 0, 0, 0, 0, 0, 0, 0, 0, 2);
        desk.factors();
        Check.due("11: x and one of degree 11", Check.told(desk),
                "[0, 1]^1 [-3, 0, 0, 0, 0, 0, 0, 0, 0, 0, 0, 2]^1");
        Check.due("11: part(0, 1)", desk.part(0, 1), 1);
        Check.due("11: part(1, 11)", desk.part(1, 11), 2);
        int[][] wrong = {{0, 2}, {0, 11}, {0, -1}, {1, 12}, {1, -1}, {1, 13}, {2, 0}, {-1, 0}, {2, 1}, {12, 0},
            {0, LOW}, {0, HIGH}, {1, LOW}, {1, HIGH}, {LOW, 0}, {HIGH, 0}, {LOW, LOW}, {HIGH, HIGH}};
        for (int[] pair : wrong) {
            Check.due("11: part(" + pair[0] + ", " + pair[1] + ")",
                    Check.answer(() -> desk.part(pair[0], pair[1])), ELEMENT);
        }
        retake(desk, 7, 0, 0, 0, 0, 0, 0, 0, 0, 0, 0, 0, 1);
        desk.factors();
        Check.due("11: part(0, 12)", desk.part(0, 12), 1);
        Check.due("11: part(0, 13)", Check.answer(() -> desk.part(0, 13)), ELEMENT);
        retake(desk, 7, 1);
        desk.factors();
        Check.due("11: part(0, 2) above the new one", Check.answer(() -> desk.part(0, 2)), ELEMENT);
    }

    /** T: "All coefficients of all factors and divisors lie within longs": they may be no ints. */
    private static void largeParts() {
        FactorDesk desk = Check.desk(-2147480650, 1073740317, 2147480637, -2147480656, 2147480654,
                1073740350, 41, -1073740283, -2147480624, 2147480651, -2147480656, -1073740331, 2147480646);
        Check.due("T: large parts: factors()", desk.factors(), 3);
        Check.due("T: part(2, 3)", desk.part(2, 3), 31138469399L);
        Check.due("T: part(2, 4)", desk.part(2, 4), -31138469394L);
        Check.due("T: part(2, 7)", desk.part(2, 7), 2147480646L);
        Check.due("T: factor(0, 1)", desk.factor(0, 1), 3);
        FactorDesk turned = Check.desk(LOW, 0, LOW, LOW);
        turned.factors();
        Check.due("T: a content -2147483648", Check.told(turned), "[1, 0, 1, 1]^1");
        FactorDesk low = Check.desk(0, HIGH, 0, LOW);
        low.factors();
        Check.due("T: 2147483648 in a factor", Check.told(low), "[0, 1]^1 [-2147483647, 0, 2147483648]^1");
    }

    private static void dueIrreducible(boolean want, int... coefficients) {
        FactorDesk desk = Check.desk(coefficients);
        String name = "12: isIrreducible() of " + Check.polynomial(desk);
        Check.due(name, desk.isIrreducible(), want);
        Check.due(name + " again", desk.isIrreducible(), want);
        Check.due("12: nothing is told", Check.told(desk), "");
    }

    private static void isIrreducible() {
        for (int number : row(1, -1, 2, -2, 7, LOW, HIGH)) {
            dueIrreducible(false, number);
            dueIrreducible(number == 1, 0, number);
            dueIrreducible(number == 1, number, number);
        }
        // a content other than 1, also -1
        dueIrreducible(true, 1, 0, 1);
        dueIrreducible(false, -1, 0, -1);
        dueIrreducible(false, 2, 0, 2);
        dueIrreducible(false, -2, 0, -2);
        dueIrreducible(true, -7, 0, 1);
        dueIrreducible(false, 7, 0, -1);
        dueIrreducible(true, 1, 2);
        dueIrreducible(false, 1, -2);
        dueIrreducible(true, LOW, HIGH);
        dueIrreducible(false, HIGH, LOW);
        // one factor, and more than once
        dueIrreducible(false, 0, 0, 1);
        dueIrreducible(false, 4, 4, 1);
        dueIrreducible(false, 1, 0, 2, 0, 1);
        // degree 12
        dueIrreducible(true, 2, 0, 0, 0, 0, 0, 0, 0, 0, 0, 0, 0, 1);
        dueIrreducible(false, 2, 0, 0, 0, 0, 0, 0, 0, 0, 0, 0, 0, -1);
        dueIrreducible(false, 0, 2, 0, 0, 0, 0, 0, 0, 0, 0, 0, 0, 1);
        dueIrreducible(false, TWELVE_ROOTS);
        FactorDesk desk = Check.desk(1, 0, 1);
        desk.isIrreducible();
        Check.put(desk, 0, 1);
        desk.times();
        Check.due("12: after times()", desk.isIrreducible(), false);
        retake(desk, 3, 1);
        Check.due("12: after take()", desk.isIrreducible(), true);
        Check.put(desk, -1);
        desk.times();
        Check.due("12: after times() by -1", desk.isIrreducible(), false);
        retake(desk, 3, 1);
        desk.isIrreducible();
        retake(desk, 1);
        Check.due("12: 1 behind an irreducible one", desk.isIrreducible(), false);
        Check.due("13: 1 behind an irreducible one", desk.ofDegree(1), 0);
    }

    private static void dueDegrees(int[] want, int... coefficients) {
        FactorDesk desk = Check.desk(coefficients);
        for (int degree = 1; degree <= 12; degree++) {
            Check.due("13: ofDegree(" + degree + ") of " + Check.polynomial(desk), desk.ofDegree(degree),
                    degree <= want.length ? want[degree - 1] : 0);
        }
        for (int wrong : row(0, 13, -1, 14, LOW, HIGH)) {
            Check.due("13: ofDegree(" + wrong + ")", Check.answer(() -> desk.ofDegree(wrong)), ARGUMENT);
        }
    }

    private static void ofDegree() {
        dueDegrees(row(), 1);
        dueDegrees(row(), LOW);
        dueDegrees(row(1), 0, -6);
        dueDegrees(row(12), power(12, -6));
        dueDegrees(row(12), TWELVE_ROOTS);
        dueDegrees(row(0, 6), 3, 0, 18, 0, 45, 0, 60, 0, 45, 0, 18, 0, 3);
        dueDegrees(row(0, 0, 0, 0, 0, 0, 0, 0, 0, 0, 0, 1), 2, 0, 0, 0, 0, 0, 0, 0, 0, 0, 0, 0, 6);
        dueDegrees(row(1, 0, 0, 0, 0, 0, 0, 0, 0, 0, 1), 0, -3, 0, 0, 0, 0, 0, 0, 0, 0, 0, 0, 2);
        dueDegrees(row(2, 3, 0, 1), 1, 0, 0, 0, 0, 0, 0, 0, 0, 0, 0, 0, -1);
        dueDegrees(row(3, 3), 0, 0, 1, 1, 3, 3, 3, 3, 1, 1);
    }

    private static void ofDegreeOfNow() {
        FactorDesk desk = Check.desk(0, 0, -1, 0, 1);
        desk.factors();
        Check.due("13: of degree 1", desk.ofDegree(1), 4);
        Check.put(desk, 2, 0, 1);
        desk.times();
        Check.due("13: of degree 2 after times()", desk.ofDegree(2), 1);
        Check.due("13: of degree 1 after times()", desk.ofDegree(1), 4);
        Check.due("13: told stays", Check.told(desk), "[-1, 1]^1 [0, 1]^2 [1, 1]^1");
        Check.put(desk, 5, 1);
        Check.due("13: the tape does not count", desk.ofDegree(1), 4);
        desk.take();
        Check.due("13: of degree 1 after take()", desk.ofDegree(1), 1);
        Check.due("13: of degree 2 after take()", desk.ofDegree(2), 0);
        Check.due("13: told stays", Check.told(desk), "[-1, 1]^1 [0, 1]^2 [1, 1]^1");
        Check.due("13: a wrong degree", Check.answer(() -> desk.ofDegree(0)), ARGUMENT);
        Check.due("13: told stays", Check.told(desk), "[-1, 1]^1 [0, 1]^2 [1, 1]^1");
    }
}
