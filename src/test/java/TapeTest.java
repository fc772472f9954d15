/** Promises 1 to 8: the tape and the polynomial. */
public final class TapeTest {
    private static final int LOW = Integer.MIN_VALUE;
    private static final int HIGH = Integer.MAX_VALUE;

    public static void main(String[] args) {
        newObject();
        putAndClear();
        take();
        times();
        timesAtTheEdges();
        atAndDegree();
        content();
        Check.finish("TapeTest");
    }

    private static void newObject() {
        FactorDesk desk = new FactorDesk();
        Check.due("new: polynomial", Check.polynomial(desk), "[1]");
        Check.due("new: told", Check.told(desk), "");
        Check.due("new: divisor", Check.divisor(desk), "[1]");
        Check.due("new: degree", desk.degree(), 0);
        Check.due("new: content", desk.content(), 1);
        Check.due("new: clear", desk.clear(), 0);
        Check.due("new: factors", desk.factors(), 0);
        Check.due("new: isIrreducible", desk.isIrreducible(), false);
        Check.due("new: factor(0, 0)", Check.answer(() -> desk.factor(0, 0)), "NoSuchElementException");
        FactorDesk other = Check.desk(1, 2, 1);
        other.factors();
        Check.due("a second object stands alone", Check.state(desk), "[1]  [1]");
    }

    private static void putAndClear() {
        FactorDesk desk = new FactorDesk();
        for (int i = 1; i <= 13; i++) {
            Check.due("put as number " + i, desk.put(i % 2 == 0 ? LOW : HIGH), i);
        }
        Check.due("put as number 14", Check.answer(() -> desk.put(0)), "IllegalStateException");
        Check.due("put as number 14 again", Check.answer(() -> desk.put(1)), "IllegalStateException");
        Check.due("clear a full tape", desk.clear(), 13);
        Check.due("clear an empty tape", desk.clear(), 0);
        Check.due("put after clear", desk.put(0), 1);
        Check.due("a 0 is there", desk.put(0), 2);
        Check.due("zeros count for clear", desk.clear(), 2);
        Check.due("polynomial", Check.polynomial(desk), "[1]");
        for (int i = 1; i <= 13; i++) {
            desk.put(i);
        }
        Check.answer(() -> desk.put(99));
        desk.take();
        Check.due("the refused put left the tape", Check.polynomial(desk),
                "[1, 2, 3, 4, 5, 6, 7, 8, 9, 10, 11, 12, 13]");
    }

    private static void take() {
        FactorDesk desk = new FactorDesk();
        Check.due("take nothing", Check.answer(desk::take), "IllegalArgumentException");
        Check.put(desk, 0, 0, 0);
        Check.due("take zeros", Check.answer(desk::take), "IllegalArgumentException");
        Check.due("polynomial stays", Check.polynomial(desk), "[1]");
        Check.due("the tape stays", desk.put(7), 4);
        Check.due("take behind zeros", desk.take(), 3);
        Check.due("polynomial", Check.polynomial(desk), "[0, 0, 0, 7]");
        Check.due("the tape is used up", desk.clear(), 0);
        Check.put(desk, 5, -4, 0, 0, 0, 0, 0, 0, 0, 0, 0, 0, 0);
        Check.due("zeros at the end", desk.take(), 1);
        Check.due("polynomial", Check.polynomial(desk), "[5, -4]");
        Check.due("nothing is left of the old one", desk.at(3), 0);
        Check.put(desk, LOW);
        Check.due("take a number", desk.take(), 0);
        Check.due("polynomial", Check.polynomial(desk), "[-2147483648]");
    }

    private static void times() {
        FactorDesk desk = Check.desk(1, 1);
        Check.due("times nothing", Check.answer(desk::times), "IllegalArgumentException");
        Check.put(desk, 0, 0);
        Check.due("times zeros", Check.answer(desk::times), "IllegalArgumentException");
        Check.due("polynomial stays", Check.polynomial(desk), "[1, 1]");
        Check.due("the tape stays", desk.clear(), 2);
        Check.put(desk, -3, 0, 2, 0, 0);
        Check.due("times", desk.times(), 3);
        Check.due("polynomial", Check.polynomial(desk), "[-3, -3, 2, 2]");
        Check.due("the tape is used up", desk.clear(), 0);
        Check.put(desk, 0, 0, 0, 0, 0, 0, 0, 0, 0, 1, 0, 0, 0);
        Check.due("times x^9", desk.times(), 12);
        Check.due("polynomial", Check.polynomial(desk), "[0, 0, 0, 0, 0, 0, 0, 0, 0, -3, -3, 2, 2]");
        Check.put(desk, 0, 1);
        Check.due("times beyond 12", Check.answer(desk::times), "IllegalStateException");
        Check.due("degree stays", desk.degree(), 12);
        Check.due("the tape stays", desk.clear(), 2);
        Check.put(desk, -1, 0);
        Check.due("times -1", desk.times(), 12);
        Check.due("polynomial", Check.polynomial(desk), "[0, 0, 0, 0, 0, 0, 0, 0, 0, 3, 3, -2, -2]");
    }

    private static void timesAtTheEdges() {
        FactorDesk desk = Check.desk(LOW, 1);
        Check.put(desk, -1);
        Check.due("-LOW is no int", Check.answer(desk::times), "IllegalStateException");
        Check.due("polynomial stays", Check.polynomial(desk), "[-2147483648, 1]");
        Check.due("the tape stays", desk.clear(), 1);
        FactorDesk half = Check.desk(1 << 30, -(1 << 30));
        Check.put(half, -2);
        Check.due("2^31 is no int", Check.answer(half::times), "IllegalStateException");
        FactorDesk low = Check.desk(1 << 30);
        Check.put(low, -2, 1);
        Check.due("-2^31 is an int", low.times(), 1);
        Check.due("polynomial", Check.polynomial(low), "[-2147483648, 1073741824]");
        // products whose sums leave the range of a long
        FactorDesk square = Check.desk(LOW, LOW, LOW, LOW);
        Check.put(square, LOW, LOW, LOW, LOW);
        Check.due("a sum 2^64", Check.answer(square::times), "IllegalStateException");
        FactorDesk middle = Check.desk(1, LOW, LOW, LOW, LOW, 1);
        Check.put(middle, 0, LOW, LOW, LOW, LOW);
        Check.due("sums beyond longs", Check.answer(middle::times), "IllegalStateException");
        FactorDesk cancels = Check.desk(HIGH, LOW, 1);
        Check.put(cancels, 1, 1, 0);
        Check.due("sums that cancel", cancels.times(), 3);
        Check.due("polynomial", Check.polynomial(cancels), "[2147483647, -1, -2147483647, 1]");
    }

    private static void atAndDegree() {
        FactorDesk desk = Check.desk(LOW, 0, HIGH);
        Check.due("at(0)", desk.at(0), LOW);
        Check.due("at(1)", desk.at(1), 0);
        Check.due("at(2)", desk.at(2), HIGH);
        Check.due("at(12)", desk.at(12), 0);
        for (int i : new int[] {-1, 13, LOW, HIGH}) {
            Check.due("at(" + i + ")", Check.answer(() -> desk.at(i)), "IllegalArgumentException");
        }
        Check.due("degree", desk.degree(), 2);
    }

    private static void content() {
        Check.due("content", Check.desk(6, 0, -6).content(), -6);
        Check.due("content", Check.desk(-4, 6, 10).content(), 2);
        Check.due("content of a number", Check.desk(-7).content(), -7);
        Check.due("content of LOW", Check.desk(LOW).content(), -2147483648L);
        Check.due("content of LOWs", Check.desk(LOW, 0, LOW, 0).content(), -2147483648L);
        Check.due("content below LOW x", Check.desk(LOW, 1 << 30).content(), 1 << 30);
        Check.due("content of HIGHs", Check.desk(0, HIGH, HIGH).content(), HIGH);
        Check.due("content -1", Check.desk(3, 5, -1).content(), -1);
    }
}
