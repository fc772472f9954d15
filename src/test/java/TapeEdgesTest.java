import java.util.function.Consumer;

/**
 * The boundary cases of the terms and of promises 1 to 8, sentence by sentence; a label begins with
 * the promise's number, or with T for the terms.
 */
public final class TapeEdgesTest {
    private static final int LOW = Integer.MIN_VALUE;
    private static final int HIGH = Integer.MAX_VALUE;
    private static final String ARGUMENT = "IllegalArgumentException";
    private static final String STATE = "IllegalStateException";
    private static final String ELEMENT = "NoSuchElementException";

    public static void main(String[] args) {
        lastCallThatCounts();
        newObject();
        thirteenCoefficients();
        zerosAtTheEnd();
        tapeAfterOtherCalls();
        clear();
        take();
        takeRefused();
        timesWithoutProduct();
        timesDegree();
        timesCoefficients();
        timesSumsThatCancel();
        at();
        degree();
        content();
        Check.finish("TapeEdgesTest");
    }

    /** T: "An object is used for at most 512 calls": the 512th is answered as the first. */
    private static void lastCallThatCounts() {
        FactorDesk desk = new FactorDesk();
        for (int round = 0; round < 102; round++) {
            Check.due("T: call " + (5 * round + 1), desk.put(-1), 1);
            Check.due("T: call " + (5 * round + 2), desk.put(0), 2);
            Check.due("T: call " + (5 * round + 3), desk.put(1), 3);
            Check.due("T: call " + (5 * round + 4), desk.take(), 2);
            Check.due("T: call " + (5 * round + 5), desk.factors(), 2);
        }
        Check.due("T: call 511", desk.part(1, 0), 1);
        Check.due("T: call 512", Check.answer(() -> desk.part(2, 0)), ELEMENT);
    }

    private static void newObject() {
        Check.due("1: at(0)", new FactorDesk().at(0), 1);
        for (int i = 1; i <= 12; i++) {
            Check.due("1: at(" + i + ")", new FactorDesk().at(i), 0);
        }
        Check.due("1: degree()", new FactorDesk().degree(), 0);
        Check.due("1: content()", new FactorDesk().content(), 1);
        Check.due("1: factors()", new FactorDesk().factors(), 0);
        Check.due("1: isIrreducible()", new FactorDesk().isIrreducible(), false);
        Check.due("1: value(7, 2)", new FactorDesk().value(7, 2), 1);
        Check.due("1: no factor", Check.answer(() -> new FactorDesk().factor(0, 0)), ELEMENT);
        Check.due("1: no part", Check.answer(() -> new FactorDesk().part(0, 0)), ELEMENT);
        Check.due("1: the tape is empty", new FactorDesk().clear(), 0);
        Check.due("1: the tape is empty for put()", new FactorDesk().put(5), 1);
        FactorDesk desk = new FactorDesk();
        Check.put(desk, -4, 6);
        Check.due("1: 1 times the tape", desk.times(), 1);
        Check.due("1: 1 times the tape", Check.polynomial(desk), "[-4, 6]");
        FactorDesk numbers = new FactorDesk();
        Check.put(numbers, -1);
        Check.due("1: -1 divides 1", numbers.divides(), true);
        Check.put(numbers, 0, 1);
        Check.due("1: x does not divide 1", numbers.divides(), false);
        Check.put(numbers, 0, 1);
        Check.due("1: common() of 1 and x", numbers.common(), 0);
    }

    private static void thirteenCoefficients() {
        for (int c : new int[] {0, 1, -1, LOW, HIGH}) {
            FactorDesk desk = new FactorDesk();
            for (int many = 1; many <= 13; many++) {
                Check.due("2: put(" + c + ")", desk.put(c), many);
            }
            for (int more = 14; more <= 16; more++) {
                Check.due("2: put(" + c + ") on 13", Check.answer(() -> desk.put(c)), STATE);
            }
            Check.due("2: 13 are there after refused ones", desk.clear(), 13);
            Check.due("2: there is room again", desk.put(c), 1);
        }
        FactorDesk ends = new FactorDesk();
        Check.put(ends, LOW, HIGH, LOW, HIGH, LOW, HIGH, LOW, HIGH, LOW, HIGH, LOW, HIGH, LOW);
        Check.due("T: a tape of 13", ends.take(), 12);
        Check.due("T: -2147483648 to 2147483647", Check.polynomial(ends),
                "[-2147483648, 2147483647, -2147483648, 2147483647, -2147483648, 2147483647,"
                + " -2147483648, 2147483647, -2147483648, 2147483647, -2147483648, 2147483647,"
                + " -2147483648]");
    }

    private static void zerosAtTheEnd() {
        FactorDesk desk = new FactorDesk();
        Check.put(desk, 3, 0, 0, 0, 0, 0, 0, 0, 0, 0, 0, 0, 0);
        Check.due("T: zeros are there for put()", Check.answer(() -> desk.put(1)), STATE);
        Check.due("T: zeros are there for clear()", desk.clear(), 13);
        Check.put(desk, 3, 0, 0);
        Check.due("T: put() behind zeros", desk.put(2), 4);
        Check.due("T: zeros in between", desk.take(), 3);
        Check.due("T: zeros in between", Check.polynomial(desk), "[3, 0, 0, 2]");
        Check.put(desk, 3, 0, 0);
        Check.due("T: zeros count for nothing in take()", desk.take(), 0);
        Check.put(desk, 0, 5, 0, 0);
        Check.due("T: zeros count for nothing in times()", desk.times(), 1);
        Check.put(desk, 0, 1, 0, 0, 0, 0, 0, 0, 0, 0, 0, 0, 0);
        Check.due("T: zeros count for nothing in common()", desk.common(), 1);
        Check.put(desk, 0, 1, 0, 0, 0, 0, 0, 0, 0, 0, 0, 0, 0);
        Check.due("T: zeros count for nothing in divides()", desk.divides(), true);
        Check.put(desk, 8, 0, 0, 0, 0, 0, 0, 0, 0, 0, 0, 0, 0);
        Check.due("T: a number with zeros divides", desk.divides(), true);
    }

    private static void tapeAfter(String name, int want, Consumer<FactorDesk> call) {
        FactorDesk desk = Check.desk(6, 5, 1);
        desk.factors();
        Check.put(desk, 2, 1, 0);
        call.accept(desk);
        Check.due("T: put() after " + name, desk.put(1), want + 1);
        Check.due("T: clear() after " + name, desk.clear(), want + 1);
    }

    private static void tapeAfterOtherCalls() {
        tapeAfter("take()", 0, FactorDesk::take);
        tapeAfter("times()", 0, FactorDesk::times);
        tapeAfter("common()", 0, FactorDesk::common);
        tapeAfter("divides()", 0, FactorDesk::divides);
        tapeAfter("clear()", 0, FactorDesk::clear);
        tapeAfter("at()", 3, d -> d.at(0));
        tapeAfter("degree()", 3, FactorDesk::degree);
        tapeAfter("content()", 3, FactorDesk::content);
        tapeAfter("factors()", 3, FactorDesk::factors);
        tapeAfter("factor()", 3, d -> d.factor(0, 0));
        tapeAfter("part()", 3, d -> d.part(0, 0));
        tapeAfter("isIrreducible()", 3, FactorDesk::isIrreducible);
        tapeAfter("ofDegree()", 3, d -> d.ofDegree(1));
        tapeAfter("divisor()", 3, d -> d.divisor(0));
        tapeAfter("value()", 3, d -> d.value(1, 5));
    }

    private static void clear() {
        for (int many = 0; many <= 13; many++) {
            FactorDesk desk = Check.desk(-1, 0, 1);
            desk.factors();
            Check.put(desk, 1, 1);
            desk.common();
            for (int i = 0; i < many; i++) {
                desk.put(i == 0 ? 7 : 0);
            }
            Check.due("3: clear() of " + many, desk.clear(), many);
            Check.due("3: clear() again", desk.clear(), 0);
            Check.due("3: all else stays", Check.state(desk), "[-1, 0, 1] [-1, 1]^1 [1, 1]^1 [1, 1]");
            Check.due("3: it is empty for take()", Check.answer(desk::take), ARGUMENT);
            Check.put(desk, 0, 0);
            Check.due("3: nothing comes back", Check.answer(desk::take), ARGUMENT);
        }
    }

    private static void take() {
        for (int top = 0; top <= 12; top++) {
            for (int zeros = 0; top + zeros <= 12; zeros++) {
                FactorDesk desk = Check.desk(LOW, 7, 7, 7, 7, 7, 7, 7, 7, 7, 7, 7, HIGH);
                for (int k = 0; k <= top + zeros; k++) {
                    desk.put(k == top ? -1 : 0);
                }
                Check.due("4: take() of degree " + top, desk.take(), top);
                for (int k = 0; k <= 12; k++) {
                    Check.due("4: at(" + k + ") of -x^" + top, desk.at(k), k == top ? -1 : 0);
                }
                Check.due("4: the tape is used up", desk.clear(), 0);
            }
        }
        FactorDesk desk = Check.desk(-1, 0, 1);
        desk.factors();
        Check.put(desk, 1, 1);
        desk.common();
        Check.put(desk, LOW);
        Check.due("4: take() of a number", desk.take(), 0);
        Check.due("4: told factors and divisor stay", Check.state(desk),
                "[-2147483648] [-1, 1]^1 [1, 1]^1 [1, 1]");
        Check.due("4: take() of the used up tape", Check.answer(desk::take), ARGUMENT);
    }

    private static void takeRefused() {
        FactorDesk desk = Check.desk(5, 4);
        Check.due("4: empty", Check.answer(desk::take), ARGUMENT);
        for (int many = 1; many <= 13; many++) {
            desk.put(0);
            Check.due("4: " + many + " zeros", Check.answer(desk::take), ARGUMENT);
        }
        Check.due("4: the polynomial stays", Check.polynomial(desk), "[5, 4]");
        Check.due("4: the tape stays", desk.clear(), 13);
    }

    private static void timesWithoutProduct() {
        FactorDesk desk = Check.desk(1, 2, 3, 4, 5, 6, 7, 8, 9, 10, 11, 12, 13);
        Check.due("5: empty", Check.answer(desk::times), ARGUMENT);
        for (int many = 1; many <= 13; many++) {
            desk.put(0);
            Check.due("5: " + many + " zeros", Check.answer(desk::times), ARGUMENT);
        }
        Check.due("5: the polynomial stays", Check.polynomial(desk),
                "[1, 2, 3, 4, 5, 6, 7, 8, 9, 10, 11, 12, 13]");
        Check.due("5: the tape stays", desk.clear(), 13);
    }

    private static void putPower(FactorDesk desk, int top, int zeros) {
        for (int k = 0; k <= top + zeros; k++) {
            desk.put(k == top ? 1 : 0);
        }
    }

    /** 5: "a degree above 12" */
    private static void timesDegree() {
        for (int one = 0; one <= 12; one++) {
            for (int two = 0; two <= 12; two++) {
                FactorDesk desk = new FactorDesk();
                putPower(desk, one, 12 - one);
                desk.take();
                putPower(desk, two, 12 - two);
                boolean fits = one + two <= 12;
                Check.due("5: degrees " + one + " and " + two, Check.answer(desk::times),
                        fits ? String.valueOf(one + two) : STATE);
                Check.due("5: the degree then", desk.degree(), fits ? one + two : one);
                Check.due("5: the highest coefficient then", desk.at(desk.degree()), 1);
                Check.due("5: the tape then", desk.clear(), fits ? 0 : 13);
            }
        }
    }

    private static void dueTimes(String want, int[] polynomial, int... tape) {
        FactorDesk desk = Check.desk(polynomial);
        String before = Check.polynomial(desk);
        Check.put(desk, tape);
        String got = Check.answer(desk::times);
        boolean refused = want.equals(STATE);
        String name = "5: " + before + " times " + java.util.Arrays.toString(tape);
        Check.due(name, refused ? got : Check.polynomial(desk), want);
        Check.due(name + ": answer", got, refused ? STATE : String.valueOf(desk.degree()));
        Check.due(name + ": polynomial", Check.polynomial(desk), refused ? before : want);
        Check.due(name + ": tape", desk.clear(), refused ? tape.length : 0);
    }

    private static int[] row(int... coefficients) {
        return coefficients;
    }

    /** 5: "a coefficient that is not -2147483648 .. 2147483647", lowest, middle and highest. */
    private static void timesCoefficients() {
        dueTimes("[2147483647]", row(HIGH), 1);
        dueTimes("[-2147483647]", row(HIGH), -1, 0);
        dueTimes("[-2147483648]", row(LOW), 1);
        dueTimes(STATE, row(LOW), -1);
        dueTimes(STATE, row(-1), LOW);
        dueTimes("[-2147483648, 65536]", row(32768, -1), -65536, 0, 0, 0, 0, 0);
        dueTimes(STATE, row(32768, -1), 65536);
        dueTimes(STATE, row(-32768, -1), -65536);
        dueTimes("[2147483646, 6]", row(715827882, 2), 3);
        dueTimes(STATE, row(715827883, 2), 3);
        dueTimes("[-2147483646, 6]", row(-715827882, 2), 3);
        dueTimes(STATE, row(-715827883, 2), 3);
        dueTimes("[1073741823, 2147483647, 1073741824]", row(1073741823, 1073741824), 1, 1);
        dueTimes(STATE, row(1073741824, 1073741824), 1, 1);
        dueTimes("[-1073741824, -2147483648, -1073741824]", row(-1073741824, -1073741824), 1, 1);
        dueTimes(STATE, row(-1073741825, -1073741824), 1, 1);
        dueTimes("[0, 0, -2147483648]", row(0, 65536), 0, -32768);
        dueTimes(STATE, row(0, 65536), 0, 32768);
        dueTimes("[0, 0, 0, 0, 0, 0, 0, 0, 0, 0, 0, 0, -2147483648]",
                row(0, 0, 0, 0, 0, 0, 65536), 0, 0, 0, 0, 0, 0, -32768);
        dueTimes(STATE, row(0, 0, 0, 0, 0, 0, 65536), 0, 0, 0, 0, 0, 0, 32768);
        // what an int, or a long, would hold as a small number
        dueTimes(STATE, row(65536), 65536);
        dueTimes(STATE, row(65537), 65537);
        dueTimes(STATE, row(65537), -65537);
        dueTimes(STATE, row(HIGH), HIGH);
        dueTimes(STATE, row(LOW), LOW);
        dueTimes(STATE, row(LOW), HIGH);
        dueTimes(STATE, row(LOW, LOW, LOW, LOW), LOW, LOW, LOW, LOW);
    }

    /** Sums that leave the ints on the way, and the product does not. */
    private static void timesSumsThatCancel() {
        int s = 46340;
        dueBothWays(row(s, -s, s), row(-s, -s, s, s));
        dueBothWays(row(s, -s, s), row(-s, -s, s, s, -s, -s));
        dueBothWays(row(s, -s, -s, s, s, -s), row(-s, -s, -s, -s, s, 0, s));
    }

    private static void dueBothWays(int[] one, int[] two) {
        dueTimes(product(one, two), one, two);
        dueTimes(product(one, two), two, one);
    }

    private static String product(int[] one, int[] two) {
        long[] sums = new long[one.length + two.length - 1];
        for (int i = 0; i < one.length; i++) {
            for (int j = 0; j < two.length; j++) {
                sums[i + j] += (long) one[i] * two[j];
            }
        }
        return java.util.Arrays.toString(sums);
    }

    private static void at() {
        FactorDesk full = Check.desk(1, 2, 3, 4, 5, 6, 7, 8, 9, 10, 11, 12, 13);
        for (int i = 0; i <= 12; i++) {
            Check.due("6: at(" + i + ")", full.at(i), i + 1);
        }
        for (int i : row(-1, 13, -2, 14, LOW, HIGH)) {
            Check.due("6: at(" + i + ")", Check.answer(() -> full.at(i)), ARGUMENT);
            Check.due("6: at(" + i + ") of 1", Check.answer(() -> new FactorDesk().at(i)), ARGUMENT);
        }
        Check.put(full, -5, 0, 7);
        full.take();
        for (int i = 3; i <= 12; i++) {
            Check.due("6: at(" + i + ") above the degree", full.at(i), 0);
        }
        Check.due("6: at the degree", full.at(2), 7);
        Check.put(full, 0, LOW, 9, 9);
        Check.due("6: the tape is not the polynomial", full.at(1), 0);
    }

    private static void degree() {
        FactorDesk desk = Check.desk(LOW);
        Check.due("7: of a number", desk.degree(), 0);
        Check.put(desk, 0, 0, 0, 0, 0, 0, 0, 0, 0, 0, 0, 0, 1);
        Check.due("7: the tape does not count", desk.degree(), 0);
        desk.take();
        Check.due("7: of x^12", desk.degree(), 12);
        Check.put(desk, 1, 1);
        Check.answer(desk::times);
        Check.due("7: after a refused times()", desk.degree(), 12);
    }

    private static void dueContent(long want, int... coefficients) {
        FactorDesk desk = Check.desk(coefficients);
        Check.due("8: content of " + Check.polynomial(desk), desk.content(), want);
        desk.factors();
        Check.due("8: content again", desk.content(), want);
        Check.due("8: the polynomial stays", Check.state(desk).startsWith(
                Check.polynomial(Check.desk(coefficients))), true);
    }

    private static void content() {
        dueContent(1, 1);
        dueContent(-1, -1);
        dueContent(12, 12);
        dueContent(LOW, LOW);
        dueContent(HIGH, HIGH);
        dueContent(LOW, LOW, LOW);
        dueContent(LOW, 0, 0, 0, 0, 0, 0, 0, 0, 0, 0, 0, 0, LOW);
        dueContent(1, LOW, HIGH);
        dueContent(-1, HIGH, LOW);
        dueContent(1 << 30, LOW, 1 << 30);
        dueContent(-(1 << 30), 1 << 30, LOW);
        dueContent(-HIGH, HIGH, -HIGH);
        // the sign of the highest coefficient, whatever the others have
        dueContent(5, -10, -15, 5);
        dueContent(-5, 10, 15, -5);
        dueContent(-5, -10, -15, -5);
        dueContent(7, 0, 0, 7);
        dueContent(-7, 0, -14, 0, -7, 0, 0);
        dueContent(1, 6, 10, 15);
        dueContent(-1, 6, 10, -15);
    }
}
