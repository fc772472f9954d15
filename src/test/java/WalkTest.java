import java.math.BigInteger;
import java.util.Random;

/**
 * Runs of calls of all kinds, right and wrong ones, beside a plain model of the desk in
 * BigIntegers. Factors are held against what they must be: primitive, in order, different, with
 * the polynomial as their product; that they are irreducible, KnownTest and FactorsTest see.
 */
public final class WalkTest {
    private static final int WALKS = 800;
    /**
     * An object is used for 512 calls at most. What stays is for one step more and the last look at
     * the state: the told factors cost 85 calls at most, a step 15 beside them, a polynomial and a
     * divisor 53.
     */
    private static final int ENOUGH = 512 - (85 + 15) - (85 + 53 + 1);

    private final Random random;
    private final FactorDesk desk = new FactorDesk();
    private final int[] tape = new int[13];
    private int taped = 0;
    private BigInteger[] polynomial = {BigInteger.ONE};
    private BigInteger[] divisor = {BigInteger.ONE};
    private String told = "";
    private int calls = 0;

    private WalkTest(long seed) {
        random = new Random(seed);
    }

    public static void main(String[] args) {
        for (int seed = 1; seed <= WALKS; seed++) {
            WalkTest walk = new WalkTest(seed);
            while (walk.calls <= ENOUGH) {
                walk.step();
            }
            walk.compareState();
        }
        Check.finish("WalkTest");
    }

    private void step() {
        calls++;
        switch (random.nextInt(22)) {
            case 0 -> clear();
            case 1, 2 -> take();
            case 3, 4, 5 -> times();
            case 6 -> factors();
            case 7 -> common();
            case 8 -> divides();
            case 9 -> value();
            case 10 -> tell();
            default -> put();
        }
    }

    private void put() {
        int[] edges = {0, 0, 0, 1, -1, 2, Integer.MAX_VALUE, Integer.MIN_VALUE};
        int c = random.nextInt(3) == 0 ? edges[random.nextInt(random.nextInt(8) + 1)]
                : random.nextInt(7) - 3;
        String want = taped == 13 ? "IllegalStateException" : String.valueOf(taped + 1);
        Check.due("put", Check.answer(() -> desk.put(c)), want);
        if (taped < 13) {
            tape[taped++] = c;
        }
    }

    private void clear() {
        Check.due("clear", desk.clear(), taped);
        taped = 0;
    }

    private BigInteger[] tapeNow() {
        int top = taped;
        while (top > 0 && tape[top - 1] == 0) {
            top--;
        }
        BigInteger[] row = new BigInteger[top];
        for (int k = 0; k < top; k++) {
            row[k] = BigInteger.valueOf(tape[k]);
        }
        return row;
    }

    private void take() {
        BigInteger[] row = tapeNow();
        String want = row.length == 0 ? "IllegalArgumentException" : String.valueOf(row.length - 1);
        Check.due("take", Check.answer(desk::take), want);
        if (row.length > 0) {
            polynomial = row;
            taped = 0;
        }
    }

    private void times() {
        BigInteger[] row = tapeNow();
        if (row.length == 0) {
            Check.due("times", Check.answer(desk::times), "IllegalArgumentException");
            return;
        }
        BigInteger[] result = multiply(polynomial, row);
        boolean fits = result.length <= 13;
        for (BigInteger c : result) {
            fits = fits && c.bitLength() <= 31;
        }
        Check.due("times", Check.answer(desk::times),
                fits ? String.valueOf(result.length - 1) : "IllegalStateException");
        if (fits) {
            polynomial = result;
            taped = 0;
        }
    }

    private void factors() {
        desk.factors();
        told = Check.told(desk);
        BigInteger[] all = {BigInteger.valueOf(desk.content())};
        BigInteger[] latest = null;
        int count = 0;
        for (String factor : told.isEmpty() ? new String[0] : told.split(" (?=\\[)")) {
            BigInteger[] part = coefficients(factor);
            Check.due("content of a factor", content(part), BigInteger.ONE);
            Check.due("in order", latest == null || isBefore(latest, part), true);
            latest = part;
            int multiplicity = Integer.parseInt(factor.substring(factor.indexOf('^') + 1));
            Check.due("multiplicity", multiplicity > 0, true);
            for (int often = 0; often < multiplicity; often++) {
                all = multiply(all, part);
                count++;
            }
        }
        Check.due("product of all factors", text(all), text(polynomial));
        int sum = 0;
        for (int degree = 1; degree <= 12; degree++) {
            sum += desk.ofDegree(degree);
        }
        Check.due("factors of all degrees", sum, count);
        boolean alone = count == 1 && content(polynomial).equals(BigInteger.ONE);
        Check.due("isIrreducible", desk.isIrreducible(), alone);
        calls += 14 + toldCalls();
    }

    /** How many calls Check.told makes for the factors that are told now. */
    private int toldCalls() {
        int factors = told.length() - told.replace("^", "").length();
        int degrees = told.length() - told.replace(",", "").length();
        return 1 + 5 * factors + 2 * degrees;
    }

    private static BigInteger[] coefficients(String factor) {
        String[] words = factor.substring(1, factor.indexOf(']')).split(", ");
        BigInteger[] row = new BigInteger[words.length];
        for (int k = 0; k < row.length; k++) {
            row[k] = new BigInteger(words[k]);
        }
        return row;
    }

    private static boolean isBefore(BigInteger[] one, BigInteger[] two) {
        int order = Integer.compare(one.length, two.length);
        for (int k = one.length - 1; k >= 0 && order == 0; k--) {
            order = one[k].compareTo(two[k]);
        }
        return order < 0;
    }

    private void common() {
        BigInteger[] row = tapeNow();
        if (row.length == 0) {
            Check.due("common", Check.answer(desk::common), "IllegalArgumentException");
            return;
        }
        BigInteger[] one = primitive(polynomial);
        BigInteger[] two = primitive(row);
        while (two.length > 0) {
            BigInteger[] rest = primitive(remainder(one, two));
            one = two;
            two = rest;
        }
        divisor = one;
        Check.due("common", Check.answer(desk::common), String.valueOf(one.length - 1));
        taped = 0;
        Check.due("divisor", Check.divisor(desk), text(divisor));
        calls += 13 + divisor.length;
    }

    private void divides() {
        BigInteger[] row = tapeNow();
        if (row.length == 0) {
            Check.due("divides", Check.answer(desk::divides), "IllegalArgumentException");
            return;
        }
        Check.due("divides", Check.answer(desk::divides),
                String.valueOf(remainder(polynomial, row).length == 0));
        taped = 0;
    }

    private void value() {
        long x = random.nextLong() >> random.nextInt(63);
        int m = random.nextInt() >> random.nextInt(31);
        if (m < 1) {
            Check.due("value", Check.answer(() -> desk.value(x, m)), "IllegalArgumentException");
            return;
        }
        BigInteger sum = BigInteger.ZERO;
        for (int k = polynomial.length - 1; k >= 0; k--) {
            sum = sum.multiply(BigInteger.valueOf(x)).add(polynomial[k]);
        }
        Check.due("value", desk.value(x, m), sum.mod(BigInteger.valueOf(m)));
    }

    private void tell() {
        Check.due("degree", desk.degree(), polynomial.length - 1);
        Check.due("content", desk.content(), content(polynomial));
        Check.due("told", Check.told(desk), told);
        int i = random.nextInt(16) - 1;
        Check.due("at", Check.answer(() -> desk.at(i)), i < 0 || i > 12 ? "IllegalArgumentException"
                : i < polynomial.length ? polynomial[i].toString() : "0");
        calls += 2 + toldCalls();
    }

    private void compareState() {
        Check.due("state", Check.state(desk), text(polynomial) + " " + told + " " + text(divisor));
        Check.due("clear", desk.clear(), taped);
        calls += 2 * polynomial.length + 1 + toldCalls() + 13 + divisor.length + 1;
        Check.due("calls on an object (" + calls + ") are 512 at most", calls <= 512, true);
    }

    private static String text(BigInteger[] row) {
        return java.util.Arrays.toString(row);
    }

    private static BigInteger[] multiply(BigInteger[] one, BigInteger[] two) {
        BigInteger[] result = new BigInteger[one.length + two.length - 1];
        java.util.Arrays.fill(result, BigInteger.ZERO);
        for (int i = 0; i < one.length; i++) {
            for (int j = 0; j < two.length; j++) {
                result[i + j] = result[i + j].add(one[i].multiply(two[j]));
            }
        }
        return result;
    }

    private static BigInteger content(BigInteger[] row) {
        BigInteger greatest = BigInteger.ZERO;
        for (BigInteger c : row) {
            greatest = greatest.gcd(c);
        }
        return row.length > 0 && row[row.length - 1].signum() < 0 ? greatest.negate() : greatest;
    }

    private static BigInteger[] primitive(BigInteger[] row) {
        BigInteger[] result = row.clone();
        for (int k = 0; k < row.length; k++) {
            result[k] = row[k].divide(content(row));
        }
        return result;
    }

    /** What a multiple of one leaves when it is divided by two. */
    private static BigInteger[] remainder(BigInteger[] one, BigInteger[] two) {
        BigInteger[] left = one.clone();
        BigInteger lead = two[two.length - 1];
        for (int k = left.length - two.length; k >= 0; k--) {
            BigInteger top = left[k + two.length - 1];
            for (int j = 0; j < left.length; j++) {
                left[j] = left[j].multiply(lead);
            }
            for (int j = 0; j < two.length; j++) {
                left[k + j] = left[k + j].subtract(top.multiply(two[j]));
            }
        }
        int top = left.length;
        while (top > 0 && left[top - 1].signum() == 0) {
            top--;
        }
        return java.util.Arrays.copyOf(left, top);
    }
}
