import java.math.BigInteger;
import java.util.Arrays;
import java.util.function.Consumer;

/**
 * The boundary cases of promises 14 to 17, sentence by sentence; a label begins with the promise's
 * number.
 */
public final class DivisorEdgesTest {
    private static final int LOW = Integer.MIN_VALUE;
    private static final int HIGH = Integer.MAX_VALUE;
    private static final String ARGUMENT = "IllegalArgumentException";
    private static final String ELEMENT = "NoSuchElementException";
    private static final int[] NUMBERS = {1, -1, 2, -3, 6, LOW, HIGH};

    public static void main(String[] args) {
        contentsCountForNothing();
        nothingInCommon();
        leadingAboveZero();
        commonAtFullDegree();
        commonRefused();
        divisorAtFirst();
        divisorPlaces();
        divisorOfTheLatest();
        numbersDivide();
        dividesWithFractions();
        dividesByDegree();
        dividesRefused();
        nothingElseChanges();
        valueModuli();
        valuePoints();
        Check.finish("DivisorEdgesTest");
    }

    private static int[] row(int... coefficients) {
        return coefficients;
    }

    private static void dueCommon(String want, int[] polynomial, int... tape) {
        FactorDesk desk = Check.desk(polynomial);
        Check.put(desk, tape);
        String name = "14: common() of " + Check.polynomial(desk) + " and " + Arrays.toString(tape);
        Check.due(name, desk.common(), want.split(",").length - 1);
        Check.due(name + ": divisor", Check.divisor(desk), want);
        Check.due(name + ": the tape is used up", desk.clear(), 0);
        Check.due(name + ": the polynomial stays", Check.polynomial(desk),
                Check.polynomial(Check.desk(polynomial)));
    }

    private static void contentsCountForNothing() {
        for (int number : NUMBERS) {
            dueCommon("[1, 1]", row(number, number), 2, 2);
            dueCommon("[1, 1]", row(-6, -6), number, number);
            dueCommon("[1, 1]", row(number, number), number, number, 0);
            dueCommon("[1]", row(number), number);
            dueCommon("[1]", row(number), 0, number);
            dueCommon("[1]", row(0, number), number);
            dueCommon("[0, 1]", row(0, number), 0, number);
        }
        dueCommon("[3, 2]", row(12, 8), 15, 10);
        dueCommon("[-1, 0, 2]", row(6, 0, -12), -5, 0, 10);
    }

    private static void nothingInCommon() {
        dueCommon("[1]", row(1, 1), 2, 1);
        dueCommon("[1]", row(4, 2), 1, 2);
        dueCommon("[1]", row(2, 2), 4, 2);
        dueCommon("[1]", row(1, 0, 1), -1, 0, 1);
        dueCommon("[1]", row(HIGH, LOW), LOW, HIGH);
        dueCommon("[1]", row(0, 0, 0, 0, 0, 0, 0, 0, 0, 0, 0, 0, 1), 1, 0, 0, 0, 0, 0, 0, 0, 0, 0, 0, 0, 1);
        dueCommon("[1]", row(1, 0, 0, 0, 0, 0, 0, 0, 0, 0, 0, 0, 1), HIGH);
        dueCommon("[1]", row(HIGH), 1, 0, 0, 0, 0, 0, 0, 0, 0, 0, 0, 0, 1);
    }

    private static void leadingAboveZero() {
        dueCommon("[-1, 1]", row(1, -1), 1, -1);
        dueCommon("[-1, 1]", row(-1, 1), 1, -1);
        dueCommon("[-1, 1]", row(1, -1), -1, 1);
        dueCommon("[1, 1]", row(-1, -1), -1, -1);
        dueCommon("[-2147483647, 2147483648]", row(HIGH, LOW), HIGH, LOW);
        dueCommon("[2147483648, 2147483647]", row(LOW, -HIGH), LOW, -HIGH, 0, 0);
        dueCommon("[0, 1]", row(0, LOW), 0, 0, LOW);
    }

    private static void commonAtFullDegree() {
        int[] ends = {HIGH, LOW, HIGH, LOW, HIGH, LOW, HIGH, LOW, HIGH, LOW, HIGH, LOW, HIGH};
        dueCommon(Arrays.toString(ends), ends, ends);
        dueCommon("[0, 0, 0, 0, 0, 0, 0, 0, 0, 0, 0, 0, 1]", row(0, 0, 0, 0, 0, 0, 0, 0, 0, 0, 0, 0, LOW),
                0, 0, 0, 0, 0, 0, 0, 0, 0, 0, 0, 0, -7);
        dueCommon("[0, 1]", row(0, 0, 0, 0, 0, 0, 0, 0, 0, 0, 0, 0, 1), 0, -5);
        dueCommon("[0, 1]", row(0, -5), 0, 0, 0, 0, 0, 0, 0, 0, 0, 0, 0, 0, 1);
        // repeated factors: the lesser multiplicity
        dueCommon("[1, 2, 1]", row(1, 2, 1), 1, 3, 3, 1);
        dueCommon("[1, 2, 1]", row(1, 3, 3, 1), 1, 2, 1);
    }

    private static void commonRefused() {
        FactorDesk desk = Check.desk(1, 2, 1);
        Check.put(desk, 5, 5);
        desk.common();
        Check.due("14: empty", Check.answer(desk::common), ARGUMENT);
        for (int many = 1; many <= 13; many++) {
            desk.put(0);
            Check.due("14: " + many + " zeros", Check.answer(desk::common), ARGUMENT);
        }
        Check.due("14: the divisor stays", Check.divisor(desk), "[1, 1]");
        Check.due("14: the tape stays", desk.clear(), 13);
    }

    private static void divisorAtFirst() {
        FactorDesk desk = new FactorDesk();
        Check.due("15: divisor(0) at first", desk.divisor(0), 1);
        for (int k : row(-1, 1, 2, 12, 13, LOW, HIGH)) {
            Check.due("15: divisor(" + k + ") at first", Check.answer(() -> desk.divisor(k)), ELEMENT);
        }
        Check.put(desk, 0, 5);
        desk.take();
        desk.factors();
        Check.put(desk, 0, 1);
        desk.divides();
        Check.answer(desk::common);
        Check.due("15: only common() tells a divisor", Check.divisor(desk), "[1]");
    }

    private static void divisorPlaces() {
        for (int top = 0; top <= 12; top++) {
            FactorDesk desk = new FactorDesk();
            for (int k = 0; k <= top; k++) {
                desk.put(k == top ? 3 : 2);
            }
            desk.take();
            for (int k = 0; k <= top; k++) {
                desk.put(k == top ? 3 : 2);
            }
            Check.due("15: degree", desk.common(), top);
            for (int k = 0; k <= top; k++) {
                Check.due("15: divisor(" + k + ") of degree " + top, desk.divisor(k),
                        top == 0 ? 1 : k == top ? 3 : 2);
            }
            for (int k : row(-1, top + 1, 13, LOW, HIGH)) {
                Check.due("15: divisor(" + k + ") of degree " + top, Check.answer(() -> desk.divisor(k)),
                        ELEMENT);
            }
        }
    }

    private static void stays(String name, Consumer<FactorDesk> call) {
        FactorDesk desk = Check.desk(1, 2, 1);
        Check.put(desk, -1, 0, 1);
        desk.common();
        Check.put(desk, 2, 1);
        call.accept(desk);
        Check.due("15: the latest divisor after " + name, Check.divisor(desk), "[1, 1]");
    }

    private static void divisorOfTheLatest() {
        stays("put()", d -> d.put(3));
        stays("clear()", FactorDesk::clear);
        stays("take()", FactorDesk::take);
        stays("times()", FactorDesk::times);
        stays("divides()", FactorDesk::divides);
        stays("factors()", FactorDesk::factors);
        stays("isIrreducible()", FactorDesk::isIrreducible);
        stays("ofDegree()", d -> d.ofDegree(1));
        FactorDesk desk = Check.desk(0, 0, 0, 1);
        Check.put(desk, 0, 0, 0, 2);
        Check.due("15: first", desk.common(), 3);
        Check.put(desk, 0, 2);
        Check.due("15: then", desk.common(), 1);
        Check.due("15: the latest", Check.divisor(desk), "[0, 1]");
        Check.put(desk, 5);
        Check.due("15: then a number", desk.common(), 0);
        Check.due("15: the latest", Check.divisor(desk), "[1]");
    }

    private static void dueDivides(boolean want, int[] polynomial, int... tape) {
        FactorDesk desk = Check.desk(polynomial);
        Check.put(desk, tape);
        String name = "16: does " + Arrays.toString(tape) + " divide " + Check.polynomial(desk);
        Check.due(name, desk.divides(), want);
        Check.due(name + ": the tape is used up", desk.clear(), 0);
        Check.due(name + ": the polynomial stays", Check.polynomial(desk),
                Check.polynomial(Check.desk(polynomial)));
    }

    private static void numbersDivide() {
        for (int number : NUMBERS) {
            dueDivides(true, row(1), number);
            dueDivides(true, row(-5), number, 0, 0);
            dueDivides(true, row(1, 1), number);
            dueDivides(true, row(LOW, HIGH), number, 0, 0, 0, 0, 0, 0, 0, 0, 0, 0, 0, 0);
            dueDivides(true, row(7, 0, 0, 0, 0, 0, 0, 0, 0, 0, 0, 0, 1), number);
            dueDivides(false, row(number), 0, 1);
            dueDivides(false, row(number), 1, 1);
        }
    }

    private static void dividesWithFractions() {
        for (int number : NUMBERS) {
            dueDivides(true, row(1, 1), number, number);
            dueDivides(true, row(number, number), 2, 2);
            dueDivides(true, row(0, 0, 1), 0, number);
            dueDivides(true, row(0, number), 0, 7);
            dueDivides(false, row(number, number), 2, 1);
        }
        dueDivides(true, row(-1, 0, 4), 2, 4);
        dueDivides(true, row(-1, 0, 4), 3, -6);
        dueDivides(false, row(-1, 0, 4), 4, 4);
        dueDivides(true, row(1, 3, 2), 5, 10);
        dueDivides(true, row(1, 3, 2), -7, -7);
        // one that leaves a number, or 2^64, which a long holds as 0
        dueDivides(false, row(2, 2, 1), 1, 1);
        dueDivides(false, row(LOW, 1, 4), LOW, 1);
        dueDivides(false, row(0, LOW, 1, 4), LOW, 1);
        dueDivides(false, row(1, 0, 0, 0, 0, 0, 0, 0, 0, 0, 0, 0, 1), LOW, 1);
    }

    private static void dividesByDegree() {
        int[] ends = {HIGH, LOW, HIGH, LOW, HIGH, LOW, HIGH, LOW, HIGH, LOW, HIGH, LOW, HIGH};
        dueDivides(true, ends, ends);
        dueDivides(false, ends, HIGH, LOW, HIGH, LOW, HIGH, LOW, HIGH, LOW, HIGH, LOW, HIGH, LOW, LOW);
        for (int top = 1; top <= 12; top++) {
            for (int low = 0; low <= 12; low++) {
                int[] one = new int[top + 1];
                int[] two = new int[13];
                one[top] = 5;
                two[low] = -3;
                dueDivides(low <= top, one, two);
                one[0] = 1;
                dueDivides(low == 0, one, two);
            }
        }
        dueDivides(false, row(1, 1), 1, 2, 1);
        dueDivides(true, row(1, 2, 1), 1, 2, 1, 0, 0, 0, 0, 0, 0, 0, 0, 0, 0);
    }

    private static void dividesRefused() {
        FactorDesk desk = Check.desk(1, 2, 1);
        Check.due("16: empty", Check.answer(desk::divides), ARGUMENT);
        for (int many = 1; many <= 13; many++) {
            desk.put(0);
            Check.due("16: " + many + " zeros", Check.answer(desk::divides), ARGUMENT);
        }
        Check.due("16: the polynomial stays", Check.polynomial(desk), "[1, 2, 1]");
        Check.due("16: the tape stays", desk.clear(), 13);
    }

    /** Neither common() nor divides() nor value() touches the polynomial, its factors or the told. */
    private static void nothingElseChanges() {
        FactorDesk desk = Check.desk(-12, 0, 12);
        desk.factors();
        Check.put(desk, 4, 0, 4);
        desk.times();
        String before = Check.state(desk);
        Check.put(desk, 1, 0, 0, 1);
        desk.divides();
        Check.due("16: all else stays", Check.state(desk), before);
        Check.put(desk, 1, 0, 0, 1);
        desk.common();
        desk.value(5, 11);
        Check.due("14: all else stays", Check.state(desk), before.replace(" [1]", " [1, 1]"));
        Check.due("14: content()", desk.content(), 48);
        Check.due("14: ofDegree(1)", desk.ofDegree(1), 2);
        Check.due("14: ofDegree(2)", desk.ofDegree(2), 1);
        Check.due("14: factors()", desk.factors(), 3);
        Check.due("14: told", Check.told(desk), "[-1, 1]^1 [1, 1]^1 [1, 0, 1]^1");
    }

    private static void dueValue(int[] polynomial, long x, int m) {
        BigInteger sum = BigInteger.ZERO;
        for (int k = polynomial.length - 1; k >= 0; k--) {
            sum = sum.multiply(BigInteger.valueOf(x)).add(BigInteger.valueOf(polynomial[k]));
        }
        Check.due("17: value(" + x + ", " + m + ") of " + Arrays.toString(polynomial),
                Check.desk(polynomial).value(x, m), sum.mod(BigInteger.valueOf(m)));
    }

    private static void valueModuli() {
        FactorDesk desk = Check.desk(-1);
        for (int m : row(1, 2, 3, 65536, HIGH - 1, HIGH)) {
            Check.due("17: -1 modulo " + m, desk.value(0, m), m - 1);
        }
        FactorDesk x = Check.desk(0, 1);
        for (int m : row(1, 2, 3, 65536, HIGH - 1, HIGH)) {
            Check.due("17: m - 1 modulo " + m, x.value(m - 1, m), m - 1);
            Check.due("17: m modulo " + m, x.value(m, m), 0);
            Check.due("17: -m modulo " + m, x.value(-m, m), 0);
            Check.due("17: -1 modulo " + m, x.value(-1, m), m - 1);
        }
        for (int m : row(0, -1, -2, -HIGH, LOW)) {
            for (long at : new long[] {0, 1, -1, Long.MIN_VALUE, Long.MAX_VALUE}) {
                Check.due("17: value(" + at + ", " + m + ")", Check.answer(() -> x.value(at, m)), ARGUMENT);
            }
        }
        Check.due("17: the polynomial stays", Check.polynomial(x), "[0, 1]");
    }

    private static void valuePoints() {
        int[][] polynomials = {{1}, {LOW}, {HIGH}, {0, 1}, {LOW, LOW}, {0, 0, 0, 0, 0, 0, 0, 0, 0, 0, 0, 0, 1},
            {LOW, LOW, LOW, LOW, LOW, LOW, LOW, LOW, LOW, LOW, LOW, LOW, LOW},
            {HIGH, HIGH, HIGH, HIGH, HIGH, HIGH, HIGH, HIGH, HIGH, HIGH, HIGH, HIGH, HIGH},
            {HIGH, LOW, HIGH, LOW, HIGH, LOW, HIGH, LOW, HIGH, LOW, HIGH, LOW, HIGH}};
        long[] points = {0, 1, -1, 2, LOW, HIGH, -3000000000L, 1L << 32, 1L << 62, Long.MIN_VALUE,
            Long.MIN_VALUE + 1, Long.MAX_VALUE, Long.MAX_VALUE - 1};
        for (int[] polynomial : polynomials) {
            for (long x : points) {
                for (int m : row(1, 2, 10, 65537, HIGH - 1, HIGH)) {
                    dueValue(polynomial, x, m);
                }
            }
        }
    }
}
