/** Promises 14 to 17: divisors and values. */
public final class DivisorsTest {
    private static final int LOW = Integer.MIN_VALUE;
    private static final int HIGH = Integer.MAX_VALUE;

    public static void main(String[] args) {
        common();
        commonAtTheEdges();
        divisor();
        divides();
        dividesAtTheEdges();
        wrongTapes();
        value();
        Check.finish("DivisorsTest");
    }

    private static void dueCommon(String want, int[] polynomial, int... tape) {
        FactorDesk desk = Check.desk(polynomial);
        String before = Check.polynomial(desk);
        Check.put(desk, tape);
        int degree = desk.common();
        Check.due("common", Check.divisor(desk), want);
        Check.due("its degree", degree, want.split(",").length - 1);
        Check.due("the tape is used up", desk.clear(), 0);
        Check.due("polynomial stays", Check.polynomial(desk), before);
    }

    private static int[] row(int... coefficients) {
        return coefficients;
    }

    private static void common() {
        dueCommon("[1, 1]", row(1, 2, 1), -1, 0, 1);
        dueCommon("[1, 1]", row(-6, -12, -6), 4, 0, -4, 0, 0);
        dueCommon("[1]", row(1, 2, 1), 2, 1);
        dueCommon("[1]", row(6), 4);
        dueCommon("[1]", row(6, 6), 6);
        dueCommon("[1]", row(LOW), 0, LOW);
        dueCommon("[0, 0, 1]", row(0, 0, 1), 0, 0, 0, -5);
        dueCommon("[-1, 0, 1]", row(1, 0, -1), 3, 0, -3);
        dueCommon("[-3, 2]", row(9, -12, 4), -3, 5, -2);
        dueCommon("[1, 2, 1]", row(1, 4, 6, 4, 1), -1, -1, 1, 1);
    }

    private static void commonAtTheEdges() {
        dueCommon("[2147483647, -2147483648, 2147483647]", row(HIGH, LOW, HIGH), HIGH, LOW, HIGH);
        dueCommon("[1, 1]", row(LOW, LOW), HIGH, HIGH);
        dueCommon("[1]", row(HIGH, LOW), LOW, HIGH);
        // both have the same root modulo the first prime above 2^44, and no root in common
        dueCommon("[1]", row(-1, 4194301), 4194307, 16);
        dueCommon("[3, 1]", row(-3, 12582902, 4194301), 12582921, 4194355, 16);
        // a divisor with coefficients that are no ints
        dueCommon("[-1670261170, 1193043693, 1431652428, -3101913606, 2624696125, -4, -2624696132,"
                + " 3101913600, -1431652435, -1193043699, 1670261168]",
                row(-1670261170, -2147478647, 2147478644, 954434943, -2147478659, 2147478640, -15,
                        -2147478668, 2147478633, -954434969, -2147478665, 2147478637, 1670261168),
                -1670261170, -477217477, 954434951, -477217485, 954434947, -477217485, -11,
                477217464, -954434967, 477217466, -954434966, 477217469, 1670261168);
    }

    private static void divisor() {
        FactorDesk desk = Check.desk(1, 2, 1);
        Check.due("divisor(0) at first", desk.divisor(0), 1);
        Check.due("divisor(1) at first", Check.answer(() -> desk.divisor(1)), "NoSuchElementException");
        Check.put(desk, -1, 0, 1);
        desk.common();
        Check.put(desk, 7);
        desk.take();
        Check.due("the latest divisor stays", Check.divisor(desk), "[1, 1]");
        for (int wrong : new int[] {-1, 2, 13, LOW, HIGH}) {
            Check.due("divisor(" + wrong + ")", Check.answer(() -> desk.divisor(wrong)),
                    "NoSuchElementException");
        }
        Check.put(desk, 0, 1);
        Check.due("common with a number", desk.common(), 0);
        Check.due("the divisor now", Check.divisor(desk), "[1]");
    }

    private static void dueDivides(boolean want, int[] polynomial, int... tape) {
        FactorDesk desk = Check.desk(polynomial);
        String before = Check.state(desk);
        Check.put(desk, tape);
        Check.due("divides " + before, desk.divides(), want);
        Check.due("the tape is used up", desk.clear(), 0);
        Check.due("all else stays", Check.state(desk), before);
    }

    private static void divides() {
        dueDivides(true, row(1, 2, 1), 1, 1);
        dueDivides(true, row(1, 2, 1), 2, 4, 2);
        dueDivides(true, row(1, 2, 1), -3, -3, 0, 0);
        dueDivides(true, row(1, 2, 1), 6);
        dueDivides(true, row(5), LOW, 0);
        dueDivides(false, row(5), 0, 1);
        dueDivides(false, row(1, 2, 1), 1, 3, 3, 1);
        dueDivides(false, row(1, 2, 1), -1, 1);
        dueDivides(false, row(1, 2, 1), 0, 1);
        dueDivides(true, row(0, 0, 3), 0, 7);
        dueDivides(true, row(-1, 0, 0, 0, 0, 0, 0, 0, 0, 0, 0, 0, 1), 1, 0, -1, 0, 1);
        dueDivides(false, row(-1, 0, 0, 0, 0, 0, 0, 0, 0, 0, 0, 0, 1), 1, 0, 0, 0, 0, 1);
    }

    private static void dividesAtTheEdges() {
        dueDivides(true, row(LOW, LOW), HIGH, HIGH);
        dueDivides(false, row(HIGH, LOW), LOW, HIGH);
        // what is left over is 2^64, which a long holds as 0
        dueDivides(false, row(LOW, 1, 4), LOW, 1);
        dueDivides(false, row(0, LOW, 1, 4), LOW, 1);
        dueDivides(false, row(1, 0, 0, 0, 0, 0, 0, 0, 0, 0, 0, 0, 1), LOW, 1);
        dueDivides(true, row(-2147480650, 1073740317, 2147480637, -2147480656, 2147480654, 1073740350,
                41, -1073740283, -2147480624, 2147480651, -2147480656, -1073740331, 2147480646),
                1, 4, 7, 7, 4, 1);
    }

    private static void wrongTapes() {
        FactorDesk desk = Check.desk(-1, 0, 1);
        desk.factors();
        Check.put(desk, 1, 1);
        desk.common();
        String before = Check.state(desk);
        Check.due("common without a tape", Check.answer(desk::common), "IllegalArgumentException");
        Check.due("divides without a tape", Check.answer(desk::divides), "IllegalArgumentException");
        Check.put(desk, 0, 0);
        Check.due("common with zeros", Check.answer(desk::common), "IllegalArgumentException");
        Check.due("divides with zeros", Check.answer(desk::divides), "IllegalArgumentException");
        Check.due("all stays", Check.state(desk), before);
        Check.due("the tape stays", desk.put(1), 3);
        Check.due("divides with x^2", desk.divides(), false);
    }

    private static void dueValue(long want, FactorDesk desk, long x, int m) {
        Check.due("value(" + x + ", " + m + ")", desk.value(x, m), want);
    }

    private static void value() {
        FactorDesk desk = Check.desk(-7, 0, 3);
        dueValue(5, desk, 2, 100);
        dueValue(93, desk, 0, 100);
        dueValue(0, desk, 2, 5);
        dueValue(0, desk, 123456789, 1);
        dueValue(20, desk, -3, 37);
        dueValue(2147483640L, desk, 0, HIGH);
        dueValue(1, desk, Long.MIN_VALUE, 2);
        dueValue(0, desk, Long.MAX_VALUE, 2);
        dueValue(5, desk, Long.MAX_VALUE, 3 * 3);
        dueValue(0, Check.desk(LOW), 5, 2);
        dueValue(HIGH - 1, Check.desk(LOW), 5, HIGH);
        for (int wrong : new int[] {0, -1, LOW}) {
            Check.due("value(5, " + wrong + ")", Check.answer(() -> desk.value(5, wrong)),
                    "IllegalArgumentException");
        }
        Check.due("polynomial stays", Check.polynomial(desk), "[-7, 0, 3]");
        java.math.BigInteger modulus = java.math.BigInteger.valueOf(HIGH - 1);
        FactorDesk full = Check.desk(LOW, HIGH, LOW, HIGH, LOW, HIGH, LOW, HIGH, LOW, HIGH, LOW, HIGH, LOW);
        for (long x : new long[] {Long.MIN_VALUE, Long.MAX_VALUE, -1, 0, 1, HIGH, LOW, 1L << 40}) {
            java.math.BigInteger sum = java.math.BigInteger.ZERO;
            for (int k = 12; k >= 0; k--) {
                sum = sum.multiply(java.math.BigInteger.valueOf(x))
                        .add(java.math.BigInteger.valueOf(full.at(k)));
            }
            dueValue(sum.mod(modulus).longValue(), full, x, HIGH - 1);
        }
    }
}
