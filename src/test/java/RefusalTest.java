import java.util.List;
import java.util.concurrent.Callable;
import java.util.function.Function;
import java.util.function.Supplier;

/**
 * "Of several exceptions the first one told is thrown; a call that throws changes nothing (the tape
 * stays then)": each call that can throw, in each way it can, on desks in several states.
 */
public final class RefusalTest {
    private static final int LOW = Integer.MIN_VALUE;
    private static final int HIGH = Integer.MAX_VALUE;
    private static final String ARGUMENT = "IllegalArgumentException";
    private static final String STATE = "IllegalStateException";
    private static final String ELEMENT = "NoSuchElementException";

    public static void main(String[] args) {
        fullTape();
        tapesWithoutPolynomial();
        productsThatDoNotFit();
        firstOneTold();
        wrongArguments();
        Check.finish("RefusalTest");
    }

    /** A desk that has told factors and a divisor of earlier polynomials, and has a tape. */
    private static FactorDesk busy(int[] polynomial, int... tape) {
        FactorDesk desk = Check.desk(0, -1, 0, 1);
        desk.factors();
        Check.put(desk, 3, 3);
        desk.common();
        Check.put(desk, polynomial);
        desk.take();
        Check.put(desk, tape);
        return desk;
    }

    private static int[] row(int... coefficients) {
        return coefficients;
    }

    /** How many coefficients the tape has, and which; this uses up the tape and the polynomial. */
    private static String tape(FactorDesk desk) {
        int room = 0;
        while (room < 14 && !Check.answer(() -> desk.put(9)).equals(STATE)) {
            room++;
        }
        String taken = Check.answer(desk::take);
        StringBuilder text = new StringBuilder();
        text.append(13 - room).append(" of ").append(taken).append(':');
        for (int k = 0; k <= 12; k++) {
            text.append(' ').append(desk.at(k));
        }
        return text.toString();
    }

    private static String answers(FactorDesk desk) {
        StringBuilder text = new StringBuilder(Check.state(desk));
        text.append(' ').append(desk.content()).append(' ').append(desk.isIrreducible());
        for (int degree = 1; degree <= 12; degree++) {
            text.append(' ').append(desk.ofDegree(degree));
        }
        text.append(' ').append(desk.value(-3, 101)).append(' ').append(desk.factors());
        return text.append(' ').append(Check.told(desk)).toString();
    }

    private static FactorDesk withFactorsTold(FactorDesk desk) {
        desk.factors();
        return desk;
    }

    private static void refused(String want, String name, Supplier<FactorDesk> make,
            Function<FactorDesk, Object> call) {
        leavesAll(want, name, make, call);
        leavesAll(want, name + " behind factors()", () -> withFactorsTold(make.get()), call);
    }

    private static void leavesAll(String want, String name, Supplier<FactorDesk> make,
            Function<FactorDesk, Object> call) {
        FactorDesk desk = make.get();
        FactorDesk twin = make.get();
        Callable<Object> again = () -> call.apply(desk);
        Check.due(name, Check.answer(again), want);
        Check.due(name + " once more", Check.answer(again), want);
        Check.due("all that can be asked after " + name, answers(desk), answers(twin));
        Check.due("the tape after " + name, tape(desk), tape(twin));
    }

    private static void fullTape() {
        int[] full = {1, 2, 3, 4, 5, 6, 7, 8, 9, 10, 11, 12, 13};
        int[] zeros = new int[13];
        for (int c : row(0, 1, -1, LOW, HIGH)) {
            refused(STATE, "put(" + c + ") on 13", () -> busy(row(6, 5, 1), full), d -> d.put(c));
            refused(STATE, "put(" + c + ") on 13 zeros", () -> busy(row(6, 5, 1), zeros), d -> d.put(c));
        }
    }

    private static void tapesWithoutPolynomial() {
        List<int[]> tapes = List.of(row(), row(0), row(0, 0, 0), new int[12], new int[13]);
        List<int[]> polynomials = List.of(row(1), row(-6), row(6, 5, 1), row(LOW, HIGH),
                row(1, 0, 0, 0, 0, 0, 0, 0, 0, 0, 0, 0, -1));
        for (int[] tape : tapes) {
            for (int[] polynomial : polynomials) {
                Supplier<FactorDesk> make = () -> busy(polynomial, tape);
                String on = "() with " + tape.length + " zeros";
                refused(ARGUMENT, "take" + on, make, FactorDesk::take);
                refused(ARGUMENT, "times" + on, make, FactorDesk::times);
                refused(ARGUMENT, "common" + on, make, FactorDesk::common);
                refused(ARGUMENT, "divides" + on, make, FactorDesk::divides);
            }
        }
    }

    private static void refusedTimes(String name, int[] polynomial, int... tape) {
        refused(STATE, name, () -> busy(polynomial, tape), FactorDesk::times);
    }

    private static void productsThatDoNotFit() {
        refusedTimes("degree 12 + 1", row(1, 0, 0, 0, 0, 0, 0, 0, 0, 0, 0, 0, 1), 0, 1);
        refusedTimes("degree 1 + 12", row(0, 1), 1, 0, 0, 0, 0, 0, 0, 0, 0, 0, 0, 0, 1);
        refusedTimes("degree 6 + 7", row(1, 0, 0, 0, 0, 0, 1), 0, 0, 0, 0, 0, 0, 0, 1, 0);
        refusedTimes("degree 12 + 12", row(1, 0, 0, 0, 0, 0, 0, 0, 0, 0, 0, 0, 1),
                0, 0, 0, 0, 0, 0, 0, 0, 0, 0, 0, 0, 1);
        refusedTimes("2^31 as the lowest", row(65536, 1), 32768);
        refusedTimes("2^31 in the middle", row(1073741824, 1073741824), 1, 1, 0);
        refusedTimes("2^31 as the highest", row(1, 65536), 1, 32768);
        refusedTimes("-2^31 - 1 as the lowest", row(-715827883, 1), 3);
        refusedTimes("-2^31 - 1 in the middle", row(-1073741825, -1073741824), 1, 1);
        refusedTimes("-2^31 - 1 as the highest", row(1, -715827883), 0, 3);
        refusedTimes("2^31 = -1 times -2^31", row(3, LOW, 1), -1);
        refusedTimes("2^32, which an int holds as 0", row(65536, 1), 65536, 1);
        refusedTimes("2^32 + 131073, which an int holds as 131073", row(1, 65537), 1, 65537);
        refusedTimes("-2^32 + 1, which an int holds as 1", row(65535, 1), -65537, 0, 1);
        refusedTimes("2^62", row(1, 0, LOW), 1, 0, LOW);
        refusedTimes("2^64, which a long holds as 0", row(LOW, LOW, LOW, LOW), LOW, LOW, LOW, LOW);
        refusedTimes("too high a degree and too large a coefficient",
                row(HIGH, 0, 0, 0, 0, 0, 0, 0, 0, 0, 0, 0, HIGH), LOW, LOW);
    }

    /** All of the tape is 0, and it is so long that a product would be too. */
    private static void firstOneTold() {
        int[] twelve = {1, 2, 3, 4, 5, 6, 7, 8, 9, 10, 11, 12, 13};
        refused(ARGUMENT, "times() by 13 zeros", () -> busy(twelve, new int[13]), FactorDesk::times);
        refused(ARGUMENT, "times() by 2 zeros", () -> busy(twelve, 0, 0), FactorDesk::times);
        refused(ELEMENT, "factor(9, 9)", () -> busy(twelve, 1, 2), d -> d.factor(9, 9));
        refused(ELEMENT, "part(-1, -1)", () -> busy(twelve, 1, 2), d -> d.part(-1, -1));
    }

    private static void wrongArguments() {
        List<int[]> tapes = List.of(row(), row(0, 0), row(4, 0, 2), row(5, 0, 0),
                row(1, 2, 3, 4, 5, 6, 7, 8, 9, 10, 11, 12, 13));
        for (int[] tape : tapes) {
            Supplier<FactorDesk> make = () -> busy(row(12, 10, 2), tape);
            for (int i : row(-1, 13, LOW, HIGH)) {
                refused(ARGUMENT, "at(" + i + ")", make, d -> d.at(i));
                refused(ARGUMENT, "ofDegree(" + i + ")", make, d -> d.ofDegree(i));
                refused(ELEMENT, "divisor(" + i + ")", make, d -> d.divisor(i));
                refused(ELEMENT, "factor(" + i + ", 0)", make, d -> d.factor(i, 0));
                refused(ELEMENT, "factor(0, " + i + ")", make, d -> d.factor(0, i));
                refused(ELEMENT, "part(" + i + ", 0)", make, d -> d.part(i, 0));
                refused(ELEMENT, "part(0, " + i + ")", make, d -> d.part(0, i));
            }
            for (int m : row(0, -1, LOW)) {
                refused(ARGUMENT, "value(5, " + m + ")", make, d -> d.value(5, m));
            }
            refused(ARGUMENT, "ofDegree(0)", make, d -> d.ofDegree(0));
            refused(ELEMENT, "divisor(2)", make, d -> d.divisor(2));
            refused(ELEMENT, "factor(3, 1)", make, d -> d.factor(3, 1));
            refused(ELEMENT, "factor(2, 2)", make, d -> d.factor(2, 2));
            refused(ELEMENT, "part(3, 1)", make, d -> d.part(3, 1));
            refused(ELEMENT, "part(2, 2)", make, d -> d.part(2, 2));
        }
    }
}
