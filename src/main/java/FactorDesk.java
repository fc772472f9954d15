import java.util.NoSuchElementException;

/**
 * Takes polynomials with whole coefficients apart: content, greatest common divisors, irreducible
 * factors with their multiplicities. All answers are exact: numbers that would not fit a long are
 * only ever held as residues, and every bound that makes a residue tell the number stands where it
 * is used.
 */
public final class FactorDesk {
    private static final int TOP = 12;
    private static final int SIZE = TOP + 1;
    private static final long LOWEST = -2147483648L;
    private static final long HIGHEST = 2147483647L;
    private static final long LOW_HALF = 0xFFFFFFFFL;

    private final int[] tape;
    private int taped;
    private final Poly polynomial;
    private final Poly result;
    private final Poly operand;
    private final Poly latestDivisor;
    private final FactorList told;
    private final Splitter splitter;
    private final CommonDivisor commonDivisor;
    private final Division division;

    public FactorDesk() {
        tape = new int[SIZE];
        taped = 0;
        polynomial = new Poly();
        polynomial.setNumber(1);
        result = new Poly();
        operand = new Poly();
        latestDivisor = new Poly();
        latestDivisor.setNumber(1);
        told = new FactorList();
        splitter = new Splitter();
        commonDivisor = splitter.commonDivisor;
        division = splitter.division;
    }

    public int put(int c) throws IllegalStateException {
        if (taped >= SIZE) {
            throw new IllegalStateException("the tape is full");
        }
        tape[taped] = c;
        taped++;
        return taped;
    }

    public int clear() {
        int had = taped;
        taped = 0;
        return had;
    }

    public int take() throws IllegalArgumentException {
        int top = tapeTop();
        if (top < 0) {
            throw new IllegalArgumentException("the tape holds no polynomial");
        }
        useUpTape(polynomial, top);
        splitter.forget();
        return polynomial.degree;
    }

    public int times() throws IllegalArgumentException, IllegalStateException {
        int top = tapeTop();
        if (top < 0) {
            throw new IllegalArgumentException("the tape holds no polynomial");
        }
        if (top + polynomial.degree > TOP) {
            throw new IllegalStateException("the product has too high a degree");
        }
        if (!multiplyByTape(top)) {
            throw new IllegalStateException("the product has too large a coefficient");
        }
        polynomial.copyFrom(result);
        taped = 0;
        splitter.forget();
        return polynomial.degree;
    }

    public int at(int i) throws IllegalArgumentException {
        if (i < 0 || i > TOP) {
            throw new IllegalArgumentException("there is no such coefficient");
        }
        return (int) polynomial.c[i];
    }

    public int degree() {
        return polynomial.degree;
    }

    public long content() {
        long size = polynomial.greatestNumber();
        return polynomial.leading() < 0 ? -size : size;
    }

    public int factors() {
        splitter.split(polynomial);
        told.copyFrom(splitter.found);
        return told.count;
    }

    public int factor(int i, int what) throws NoSuchElementException {
        if (i < 0 || i >= told.count || what < 0 || what > 1) {
            throw new NoSuchElementException("there is no such factor, or nothing of that kind to tell");
        }
        return what == 0 ? told.parts[i].degree : told.multiplicities[i];
    }

    public long part(int i, int k) throws NoSuchElementException {
        if (i < 0 || i >= told.count || k < 0 || k > told.parts[i].degree) {
            throw new NoSuchElementException("there is no such factor or coefficient");
        }
        return told.parts[i].c[k];
    }

    public boolean isIrreducible() {
        if (content() != 1) {
            return false;
        }
        splitter.split(polynomial);
        return splitter.found.count == 1 && splitter.found.multiplicities[0] == 1;
    }

    public int ofDegree(int degree) throws IllegalArgumentException {
        if (degree < 1 || degree > TOP) {
            throw new IllegalArgumentException("no factor has such a degree");
        }
        splitter.split(polynomial);
        return splitter.found.countOfDegree(degree);
    }

    public int common() throws IllegalArgumentException {
        int top = tapeTop();
        if (top < 0) {
            throw new IllegalArgumentException("the tape holds no polynomial");
        }
        useUpTape(operand, top);
        commonDivisor.find(polynomial, operand);
        latestDivisor.copyFrom(commonDivisor.answer);
        return latestDivisor.degree;
    }

    public long divisor(int k) throws NoSuchElementException {
        if (k < 0 || k > latestDivisor.degree) {
            throw new NoSuchElementException("the divisor has no such coefficient");
        }
        return latestDivisor.c[k];
    }

    public boolean divides() throws IllegalArgumentException {
        int top = tapeTop();
        if (top < 0) {
            throw new IllegalArgumentException("the tape holds no polynomial");
        }
        useUpTape(operand, top);
        operand.makePrimitive();
        return division.goesEvenly(polynomial, operand);
    }

    public long value(long x, int m) throws IllegalArgumentException {
        if (m < 1) {
            throw new IllegalArgumentException("the modulus is below 1");
        }
        long modulus = m;
        long point = Math.floorMod(x, modulus);
        long sum = 0;
        for (int k = polynomial.degree; k >= 0; k--) {
            sum = Math.floorMod(sum * point + polynomial.c[k], modulus);
        }
        return sum;
    }

    /** The place of the last coefficient on the tape that is not 0; -1 if there is none. */
    private int tapeTop() {
        int top = taped - 1;
        while (top >= 0 && tape[top] == 0) {
            top--;
        }
        return top;
    }

    private void useUpTape(Poly target, int top) {
        for (int k = 0; k <= TOP; k++) {
            target.c[k] = k <= top ? tape[k] : 0;
        }
        target.degree = top;
        taped = 0;
    }

    /**
     * Puts polynomial times tape into result; answers false if a coefficient is no int. Thirteen
     * products of two ints may leave the range of a long, so their halves are summed apart.
     */
    private boolean multiplyByTape(int top) {
        for (int k = 0; k <= TOP; k++) {
            long high = 0;
            long low = 0;
            for (int i = 0; i <= top && i <= k; i++) {
                long term = tape[i] * polynomial.c[k - i];
                high += term >> 32;
                low += term & LOW_HALF;
            }
            high += low >> 32;
            if (high < -1 || high > 0) {
                return false;
            }
            long sum = (high << 32) + (low & LOW_HALF);
            if (sum < LOWEST || sum > HIGHEST) {
                return false;
            }
            result.c[k] = sum;
        }
        result.degree = polynomial.degree + top;
        return true;
    }

    /** The greatest number that divides both; 0 if both are 0. */
    private static long greatestOf(long a, long b) {
        long one = a < 0 ? -a : a;
        long two = b < 0 ? -b : b;
        for (int step = 0; step < 200 && two != 0; step++) {
            long rest = one % two;
            one = two;
            two = rest;
        }
        return one;
    }

    /**
     * A polynomial of degree 12 at most. Every coefficient above its degree is 0; the degree of the
     * one without any coefficient is -1.
     */
    private static final class Poly {
        final long[] c;
        int degree;

        Poly() {
            c = new long[SIZE];
            degree = -1;
        }

        void copyFrom(Poly other) {
            System.arraycopy(other.c, 0, c, 0, SIZE);
            degree = other.degree;
        }

        void setNumber(long number) {
            for (int k = 0; k <= TOP; k++) {
                c[k] = 0;
            }
            c[0] = number;
            degree = number == 0 ? -1 : 0;
        }

        /** Finds the degree anew, after coefficients have changed. */
        void settle() {
            int top = TOP;
            while (top >= 0 && c[top] == 0) {
                top--;
            }
            degree = top;
        }

        long leading() {
            return degree < 0 ? 0 : c[degree];
        }

        long greatestNumber() {
            long greatest = 0;
            for (int k = 0; k <= degree && greatest != 1; k++) {
                greatest = greatestOf(greatest, c[k]);
            }
            return greatest;
        }

        void makePrimitive() {
            long number = leading() < 0 ? -greatestNumber() : greatestNumber();
            if (number == 0 || number == 1) {
                return;
            }
            for (int k = 0; k <= degree; k++) {
                c[k] /= number;
            }
        }

        void setDerivativeOf(Poly other) {
            for (int k = 0; k < TOP; k++) {
                c[k] = (k + 1) * other.c[k + 1];
            }
            c[TOP] = 0;
            settle();
        }

        /** Divides by x as often as that goes: how often. */
        int takeOutX() {
            int zeros = 0;
            while (zeros < degree && c[zeros] == 0) {
                zeros++;
            }
            for (int k = 0; k <= TOP; k++) {
                c[k] = k + zeros <= TOP ? c[k + zeros] : 0;
            }
            degree -= zeros;
            return zeros;
        }

        /** Whether this comes before another in the order in which factors are told. */
        boolean isBefore(Poly other) {
            if (degree != other.degree) {
                return degree < other.degree;
            }
            for (int k = degree; k >= 0; k--) {
                if (c[k] != other.c[k]) {
                    return c[k] < other.c[k];
                }
            }
            return false;
        }
    }

    /** Different irreducible polynomials with their multiplicities, kept in the order of telling. */
    private static final class FactorList {
        final Poly[] parts;
        final int[] multiplicities;
        int count;

        FactorList() {
            parts = new Poly[TOP];
            for (int i = 0; i < TOP; i++) {
                parts[i] = new Poly();
            }
            multiplicities = new int[TOP];
            count = 0;
        }

        void copyFrom(FactorList other) {
            count = other.count;
            for (int i = 0; i < count; i++) {
                parts[i].copyFrom(other.parts[i]);
                multiplicities[i] = other.multiplicities[i];
            }
        }

        void insert(Poly part, int multiplicity) {
            if (count >= TOP) {
                return;
            }
            int place = count;
            while (place > 0 && part.isBefore(parts[place - 1])) {
                parts[place].copyFrom(parts[place - 1]);
                multiplicities[place] = multiplicities[place - 1];
                place--;
            }
            parts[place].copyFrom(part);
            multiplicities[place] = multiplicity;
            count++;
        }

        int countOfDegree(int wanted) {
            int sum = 0;
            for (int i = 0; i < count; i++) {
                if (parts[i].degree == wanted) {
                    sum += multiplicities[i];
                }
            }
            return sum;
        }
    }

    /**
     * Division of whole polynomials that goes up or not at all.
     *
     * The bounds, by Mahler's measure M: where whole polynomials have F = G H, M(F) is M(G) M(H)
     * and at most the Euclidean length of F's coefficients, M(H) is at least the size of H's
     * leading coefficient, and coefficient k of G is at most binomial(degree of G, k) M(G). So for
     * every F that comes here (one of ints, the derivative of such a one, a divisor of these) all
     * coefficients of G, of H, and of G times H's leading coefficient are below LIMIT.
     */
    private static final class Division {
        private static final long LIMIT = 1L << 45;
        private static final long CHECK = 2147483647L;

        final Poly quotient;
        private final long[] left;

        Division() {
            quotient = new Poly();
            left = new long[SIZE];
        }

        /**
         * Whether a primitive divisor divides the dividend; quotient holds what it goes up with.
         * The steps wrap around, which is harmless if it goes up, since each leading number of a
         * step is below LIMIT then. In the end dividend and product agree modulo 2^64; they agree
         * modulo CHECK too, and differ by less than 2^64 CHECK, only if they are the same.
         */
        boolean goesEvenly(Poly dividend, Poly divisor) {
            int steps = dividend.degree - divisor.degree;
            if (divisor.degree < 0 || steps < 0) {
                return false;
            }
            for (int k = 0; k <= divisor.degree; k++) {
                if (!isSmall(divisor.c[k])) {
                    return false;
                }
            }
            return goesUp(dividend, divisor, steps) && isProduct(dividend, divisor);
        }

        private static boolean isSmall(long number) {
            return number > -LIMIT && number < LIMIT;
        }

        private boolean goesUp(Poly dividend, Poly divisor, int steps) {
            int low = divisor.degree;
            long lead = divisor.leading();
            if (lead == 0) {
                return false;
            }
            System.arraycopy(dividend.c, 0, left, 0, SIZE);
            quotient.setNumber(0);
            for (int k = steps; k >= 0; k--) {
                long number = left[k + low] / lead;
                if (left[k + low] % lead != 0 || !isSmall(number)) {
                    return false;
                }
                quotient.c[k] = number;
                for (int j = 0; j <= low; j++) {
                    left[k + j] -= number * divisor.c[j];
                }
            }
            quotient.degree = steps;
            for (int j = 0; j < low; j++) {
                if (left[j] != 0) {
                    return false;
                }
            }
            return true;
        }

        private boolean isProduct(Poly dividend, Poly divisor) {
            for (int k = 0; k <= dividend.degree; k++) {
                long sum = 0;
                for (int j = 0; j <= divisor.degree && j <= k; j++) {
                    sum = (sum + quotient.c[k - j] % CHECK * (divisor.c[j] % CHECK)) % CHECK;
                }
                if ((dividend.c[k] - sum) % CHECK != 0) {
                    return false;
                }
            }
            return true;
        }
    }

    /** Numbers from 0 up to a modulus below 2^48, and polynomials of such numbers. */
    private static final class Residues {
        final Poly quotient;
        private long modulus;
        private int chunk;
        private long chunkMask;
        private int chunks;

        Residues() {
            quotient = new Poly();
            modulus = 2;
            chunk = 31;
            chunkMask = (1L << 31) - 1;
            chunks = 1;
        }

        /** A product is built up in chunks of bits, so wide that two partial sums fit a long. */
        void use(long newModulus) {
            modulus = Math.max(2, newModulus);
            int bits = 1;
            while (bits < 61 && modulus >> bits != 0) {
                bits++;
            }
            chunk = 62 - bits;
            chunkMask = (1L << chunk) - 1;
            chunks = (bits + chunk - 1) / chunk;
        }

        long reduce(long number) {
            return Math.floorMod(number, modulus);
        }

        /** The number next to 0 that has this residue. */
        long balance(long residue) {
            return residue > modulus / 2 ? residue - modulus : residue;
        }

        long multiply(long a, long b) {
            if (chunks == 1) {
                return a * b % modulus;
            }
            long sum = 0;
            for (int i = chunks - 1; i >= 0; i--) {
                sum = ((sum << chunk) + a * ((b >> (i * chunk)) & chunkMask)) % modulus;
            }
            return sum;
        }

        long subtract(long a, long b) {
            return a >= b ? a - b : a - b + modulus;
        }

        /** The inverse of a number that has no divisor in common with the modulus. */
        long invert(long number) {
            long one = modulus;
            long two = number;
            long oneTimes = 0;
            long twoTimes = 1;
            for (int step = 0; step < 200 && two != 0; step++) {
                long ratio = one / two;
                long rest = one - ratio * two;
                long restTimes = oneTimes - ratio * twoTimes;
                one = two;
                two = rest;
                oneTimes = twoTimes;
                twoTimes = restTimes;
            }
            return oneTimes < 0 ? oneTimes + modulus : oneTimes;
        }

        void reduceAll(Poly from, Poly to) {
            for (int k = 0; k <= TOP; k++) {
                to.c[k] = reduce(from.c[k]);
            }
            to.settle();
        }

        void scale(Poly a, long number) {
            for (int k = 0; k <= a.degree; k++) {
                a.c[k] = multiply(a.c[k], number);
            }
            a.settle();
        }

        void makeMonic(Poly a) {
            long lead = a.leading();
            if (lead == 1) {
                return;
            }
            long inverse = invert(lead);
            for (int k = 0; k <= a.degree; k++) {
                a.c[k] = multiply(a.c[k], inverse);
            }
        }

        /** a -= number x^places b, as far as there are places. */
        void subtractShifted(Poly a, Poly b, long number, int places) {
            for (int j = 0; j <= b.degree && j + places <= TOP; j++) {
                a.c[j + places] = subtract(a.c[j + places], multiply(number, b.c[j]));
            }
        }

        /** a becomes what it leaves when it is divided by the monic b; quotient is the quotient. */
        void divide(Poly a, Poly b) {
            quotient.setNumber(0);
            for (int k = a.degree - b.degree; k >= 0 && b.degree >= 0; k--) {
                long number = a.c[k + b.degree];
                quotient.c[k] = number;
                for (int j = 0; j <= b.degree && number != 0; j++) {
                    a.c[k + j] = subtract(a.c[k + j], multiply(number, b.c[j]));
                }
            }
            quotient.settle();
            a.settle();
        }

        /** The monic greatest common divisor, modulo a prime; it stands in a or b, both are used up. */
        Poly greatestDivisor(Poly a, Poly b) {
            Poly one = a;
            Poly two = b;
            for (int step = 0; step < 2 * SIZE && two.degree >= 0; step++) {
                makeMonic(two);
                divide(one, two);
                Poly rest = one;
                one = two;
                two = rest;
            }
            makeMonic(one);
            return one;
        }

        /** a becomes a times b, whose degrees are 12 at most together. */
        void multiplyBy(Poly a, Poly b) {
            int top = Math.min(TOP, a.degree + b.degree);
            for (int k = top; k >= 0; k--) {
                long sum = 0;
                for (int j = Math.max(0, k - a.degree); j <= b.degree && j <= k; j++) {
                    sum += multiply(a.c[k - j], b.c[j]);
                }
                a.c[k] = sum % modulus;
            }
            a.settle();
        }

        /** a becomes x a modulo the monic base, which has a higher degree than a. */
        void shift(Poly a, Poly base) {
            int top = base.degree;
            if (top < 1) {
                return;
            }
            long carry = a.c[top - 1];
            for (int k = top - 1; k > 0; k--) {
                a.c[k] = carry == 0 ? a.c[k - 1] : subtract(a.c[k - 1], multiply(carry, base.c[k]));
            }
            a.c[0] = carry == 0 ? 0 : subtract(0, multiply(carry, base.c[0]));
        }
    }

    /**
     * The greatest common divisor of whole polynomials, found modulo a prime above twice every
     * coefficient that it can have (with the leading coefficient that is put on it: see Division).
     * A prime may tell too high a degree, but then its answer does not divide both; such primes
     * divide a resultant below 2^860, so that not more than 19 of those that stand here can.
     */
    private static final class CommonDivisor {
        private static final long[] PRIMES = {
            17592186044423L, 17592186044437L, 17592186044443L, 17592186044471L, 17592186044591L,
            17592186044611L, 17592186044651L, 17592186044659L, 17592186044747L, 17592186044767L,
            17592186044813L, 17592186044869L, 17592186044887L, 17592186044947L, 17592186045019L,
            17592186045023L, 17592186045073L, 17592186045107L, 17592186045149L, 17592186045157L,
            17592186045193L, 17592186045241L, 17592186045263L, 17592186045271L
        };

        final Poly answer;
        final Division division;
        private final Residues residues;
        private final Poly one;
        private final Poly two;
        private final Poly a;
        private final Poly b;

        CommonDivisor() {
            division = new Division();
            residues = new Residues();
            answer = new Poly();
            one = new Poly();
            two = new Poly();
            a = new Poly();
            b = new Poly();
        }

        void find(Poly first, Poly second) {
            one.copyFrom(first);
            one.makePrimitive();
            two.copyFrom(second);
            two.makePrimitive();
            for (int i = 0; i < PRIMES.length; i++) {
                residues.use(PRIMES[i]);
                residues.reduceAll(one, a);
                residues.reduceAll(two, b);
                answer.copyFrom(residues.greatestDivisor(a, b));
                makeWhole();
                if (answer.degree == 0
                        || division.goesEvenly(one, answer) && division.goesEvenly(two, answer)) {
                    return;
                }
            }
            answer.setNumber(1);
        }

        private void makeWhole() {
            residues.scale(answer, greatestOf(one.leading(), two.leading()));
            for (int k = 0; k <= answer.degree; k++) {
                answer.c[k] = residues.balance(answer.c[k]);
            }
            answer.makePrimitive();
        }
    }

    /** Berlekamp's way to split a polynomial modulo a small prime. */
    private static final class ModularSplit {
        private static final int FIRST_PRIME = 5;
        private static final int LAST_PRIME = 1000;
        private static final int TRIES = 4;

        final Residues residues;
        final Poly[] pieces;
        final Poly monic;
        int count;
        int prime;
        private int wanted;
        private final long[][] matrix;
        private final int[] pivotRow;
        private final Poly kernel;
        private final Poly a;
        private final Poly b;

        ModularSplit() {
            residues = new Residues();
            pieces = new Poly[TOP];
            for (int i = 0; i < TOP; i++) {
                pieces[i] = new Poly();
            }
            monic = new Poly();
            matrix = new long[TOP][TOP];
            pivotRow = new int[TOP];
            kernel = new Poly();
            a = new Poly();
            b = new Poly();
        }

        /**
         * Chooses, of the first few primes that keep the degree and leave all factors different,
         * one with the fewest pieces, so that few sets of pieces are to be tried; that prime's
         * matrix is left solved. The primes that do not suit divide the leading coefficient or the
         * discriminant, together below 2^800: the primes up to 620 have a greater product.
         */
        boolean choosePrime(Poly whole) {
            prime = 0;
            wanted = SIZE;
            int tried = 0;
            int latest = 0;
            for (int p = FIRST_PRIME; p < LAST_PRIME && tried < TRIES && wanted > 1; p += 2) {
                if (isPrime(p) && suits(whole, p)) {
                    tried++;
                    latest = p;
                    int pieceCount = solveMatrix(p);
                    if (pieceCount < wanted) {
                        wanted = pieceCount;
                        prime = p;
                    }
                }
            }
            if (latest != prime && suits(whole, prime)) {
                solveMatrix(prime);
            }
            return prime != 0;
        }

        private static boolean isPrime(int number) {
            for (int d = 2; d * d <= number && d < LAST_PRIME; d++) {
                if (number % d == 0) {
                    return false;
                }
            }
            return true;
        }

        private boolean suits(Poly whole, int p) {
            residues.use(p);
            residues.reduceAll(whole, monic);
            if (monic.degree != whole.degree) {
                return false;
            }
            residues.makeMonic(monic);
            a.setDerivativeOf(monic);
            residues.reduceAll(a, a);
            b.copyFrom(monic);
            return residues.greatestDivisor(a, b).degree == 0;
        }

        /**
         * The matrix's kernel are the polynomials that are their own power p modulo monic; its
         * dimension is the number of pieces.
         */
        private int solveMatrix(int p) {
            int n = monic.degree;
            kernel.setNumber(1);
            for (int i = 0; i < n; i++) {
                for (int j = 0; j < n; j++) {
                    matrix[j][i] = kernel.c[j];
                }
                matrix[i][i] = residues.subtract(matrix[i][i], 1);
                for (int step = 0; step < p && i + 1 < n; step++) {
                    residues.shift(kernel, monic);
                }
            }
            int rank = 0;
            for (int column = 0; column < n; column++) {
                int row = rank;
                while (row < n && matrix[row][column] == 0) {
                    row++;
                }
                pivotRow[column] = -1;
                if (row < n) {
                    long[] chosen = matrix[row];
                    matrix[row] = matrix[rank];
                    matrix[rank] = chosen;
                    pivotRow[column] = rank;
                    clearColumn(column, rank, n);
                    rank++;
                }
            }
            return n - rank;
        }

        private void clearColumn(int column, int pivot, int n) {
            long[] chosen = matrix[pivot];
            long inverse = residues.invert(chosen[column]);
            for (int j = column; j < n; j++) {
                chosen[j] = residues.multiply(chosen[j], inverse);
            }
            for (int row = 0; row < n; row++) {
                long number = matrix[row][column];
                if (row != pivot && number != 0) {
                    for (int j = column; j < n; j++) {
                        matrix[row][j] =
                                residues.subtract(matrix[row][j], residues.multiply(number, chosen[j]));
                    }
                }
            }
        }

        /** Splits monic, whose matrix is solved, into its monic irreducible pieces. */
        void splitMonic() {
            int n = monic.degree;
            pieces[0].copyFrom(monic);
            count = 1;
            for (int column = 1; column < n && count < wanted; column++) {
                if (pivotRow[column] < 0) {
                    readKernel(column, n);
                    int had = count;
                    for (int i = 0; i < had; i++) {
                        splitPiece(i);
                    }
                }
            }
        }

        private void readKernel(int column, int n) {
            kernel.setNumber(0);
            for (int k = 0; k < column && k < n; k++) {
                if (pivotRow[k] >= 0) {
                    kernel.c[k] = residues.subtract(0, matrix[pivotRow[k]][column]);
                }
            }
            kernel.c[column] = 1;
            kernel.settle();
        }

        private void splitPiece(int i) {
            for (int t = 0; t < prime && count < wanted && pieces[i].degree > 1; t++) {
                a.copyFrom(kernel);
                a.c[0] = residues.subtract(a.c[0], t);
                b.copyFrom(pieces[i]);
                Poly shared = residues.greatestDivisor(a, b);
                if (shared.degree > 0 && shared.degree < pieces[i].degree) {
                    pieces[count].copyFrom(shared);
                    residues.divide(pieces[i], pieces[count]);
                    pieces[i].copyFrom(residues.quotient);
                    count++;
                }
            }
        }
    }

    /** Hensel's way from pieces modulo a prime to pieces modulo a power of it. */
    private static final class Lift {
        final ModularSplit split;
        final Residues residues;
        final Poly[] pieces;
        private final Poly[] inverses;
        private final Poly target;
        private final Poly error;
        private final Poly work;
        private Poly one;
        private Poly two;
        private Poly oneTimes;
        private Poly twoTimes;

        Lift() {
            split = new ModularSplit();
            residues = new Residues();
            pieces = new Poly[TOP];
            inverses = new Poly[TOP];
            for (int i = 0; i < TOP; i++) {
                pieces[i] = new Poly();
                inverses[i] = new Poly();
            }
            target = new Poly();
            error = new Poly();
            work = new Poly();
            one = new Poly();
            two = new Poly();
            oneTimes = new Poly();
            twoTimes = new Poly();
        }

        /** Lifts the pieces of whole until the modulus is above least. */
        void liftPieces(Poly whole, long least) {
            if (split.count < 2) {
                return;
            }
            long power = split.prime;
            int exponent = 1;
            while (exponent < 48 && power <= least) {
                power *= split.prime;
                exponent++;
            }
            residues.use(power);
            residues.reduceAll(whole, target);
            residues.makeMonic(target);
            for (int i = 0; i < split.count; i++) {
                pieces[i].copyFrom(split.pieces[i]);
                invertOthers(i);
            }
            long step = split.prime;
            for (int e = 1; e < exponent; e++) {
                improve(step);
                step *= split.prime;
            }
        }

        /** The inverse of the product of all other pieces modulo piece i, by Euclid's way. */
        private void invertOthers(int i) {
            Residues small = split.residues;
            Poly base = split.pieces[i];
            work.copyFrom(split.monic);
            small.divide(work, base);
            two.copyFrom(small.quotient);
            small.divide(two, base);
            twoTimes.setNumber(1);
            one.copyFrom(base);
            oneTimes.setNumber(0);
            for (int step = 0; step < 2 * SIZE && two.degree > 0; step++) {
                long inverse = small.invert(two.leading());
                small.scale(two, inverse);
                small.scale(twoTimes, inverse);
                for (int k = one.degree - two.degree; k >= 0; k--) {
                    long number = one.c[k + two.degree];
                    small.subtractShifted(one, two, number, k);
                    small.subtractShifted(oneTimes, twoTimes, number, k);
                }
                one.settle();
                oneTimes.settle();
                swapRows();
            }
            small.scale(twoTimes, small.invert(two.leading()));
            inverses[i].copyFrom(twoTimes);
        }

        private void swapRows() {
            Poly row = one;
            one = two;
            two = row;
            row = oneTimes;
            oneTimes = twoTimes;
            twoTimes = row;
        }

        /** The pieces, right modulo step, become right modulo step times the prime. */
        private void improve(long step) {
            if (step < 1) {
                return;
            }
            work.copyFrom(pieces[0]);
            for (int i = 1; i < split.count; i++) {
                residues.multiplyBy(work, pieces[i]);
            }
            for (int k = 0; k <= TOP; k++) {
                long gap = residues.subtract(target.c[k], work.c[k]);
                error.c[k] = split.residues.reduce(gap / step);
            }
            error.settle();
            for (int i = 0; i < split.count && error.degree >= 0; i++) {
                findShare(i);
                for (int k = 0; k < pieces[i].degree; k++) {
                    pieces[i].c[k] += step * work.c[k];
                }
            }
        }

        /** What error, times the inverse of the others, leaves modulo piece i, put into work. */
        private void findShare(int i) {
            Residues small = split.residues;
            Poly base = split.pieces[i];
            work.setNumber(0);
            for (int k = error.degree; k >= 0; k--) {
                small.shift(work, base);
                for (int j = 0; j <= inverses[i].degree; j++) {
                    work.c[j] = small.reduce(work.c[j] + error.c[k] * inverses[i].c[j]);
                }
            }
        }
    }

    /** Splits whole polynomials into their irreducible factors and remembers them. */
    private static final class Splitter {
        final FactorList found;
        final CommonDivisor commonDivisor;
        final Division division;
        private boolean known;
        private final Lift lift;
        private final ModularSplit modular;
        private final Poly whole;
        private final Poly rest;
        private final Poly candidate;

        Splitter() {
            found = new FactorList();
            commonDivisor = new CommonDivisor();
            division = commonDivisor.division;
            known = false;
            lift = new Lift();
            modular = lift.split;
            whole = new Poly();
            rest = new Poly();
            candidate = new Poly();
        }

        void forget() {
            known = false;
        }

        /** Finds the factors of a polynomial, unless they are known since the latest forget(). */
        void split(Poly polynomial) {
            if (known) {
                return;
            }
            known = true;
            found.count = 0;
            whole.copyFrom(polynomial);
            whole.makePrimitive();
            int zeros = whole.takeOutX();
            if (whole.degree > 0) {
                candidate.setDerivativeOf(whole);
                commonDivisor.find(whole, candidate);
                takeEachFactorOnce();
                if (rest.degree > 1 && modular.choosePrime(rest)) {
                    modular.splitMonic();
                    lift.liftPieces(rest, 2 * largestCoefficient());
                    combinePieces();
                }
                found.insert(rest, 1);
                countMultiplicities();
            }
            if (zeros > 0) {
                candidate.setNumber(0);
                candidate.c[1] = 1;
                candidate.degree = 1;
                found.insert(candidate, zeros);
            }
        }

        /** What whole has in common with its derivative is all that makes it more than rest. */
        private void takeEachFactorOnce() {
            rest.copyFrom(whole);
            if (commonDivisor.answer.degree > 0 && division.goesEvenly(whole, commonDivisor.answer)) {
                rest.copyFrom(division.quotient);
            }
        }

        /**
         * Tries sets of pieces for factors of half of rest's degree at most, a set behind all of
         * its own parts, so that what is found is irreducible; what rest keeps is so too, since a
         * smaller factor of it would have been found.
         */
        private void combinePieces() {
            int used = 0;
            int sets = 1 << modular.count;
            for (int set = 1; set < sets; set++) {
                if ((set & used) == 0 && degreeOf(set) * 2 <= rest.degree && isFactor(set)) {
                    found.insert(candidate, 1);
                    rest.copyFrom(division.quotient);
                    used |= set;
                }
            }
        }

        /**
         * A bound for the coefficients of a factor of half of rest's degree at most, with rest's
         * leading coefficient on it (see Division). The Euclidean length of 13 coefficients is
         * below four times the greatest, and not above the sum of all.
         */
        private long largestCoefficient() {
            long sum = 0;
            long greatest = 0;
            for (int k = 0; k <= whole.degree; k++) {
                long size = whole.c[k] < 0 ? -whole.c[k] : whole.c[k];
                sum += size;
                greatest = Math.max(greatest, size);
            }
            int half = rest.degree / 2;
            long binomial = 1;
            for (int k = 1; k <= half / 2; k++) {
                binomial = binomial * (half - k + 1) / k;
            }
            return binomial * Math.min(sum, 4 * greatest);
        }

        private int degreeOf(int set) {
            int sum = 0;
            for (int i = 0; i < modular.count; i++) {
                if ((set & (1 << i)) != 0) {
                    sum += modular.pieces[i].degree;
                }
            }
            return sum;
        }

        /** Whether a set of pieces makes a factor of rest; candidate is that factor then. */
        private boolean isFactor(int set) {
            if (!hasRightEnd(set)) {
                return false;
            }
            Residues residues = lift.residues;
            candidate.setNumber(residues.reduce(rest.leading()));
            for (int i = 0; i < modular.count; i++) {
                if ((set & (1 << i)) != 0) {
                    residues.multiplyBy(candidate, lift.pieces[i]);
                }
            }
            for (int k = 0; k <= candidate.degree; k++) {
                candidate.c[k] = residues.balance(candidate.c[k]);
            }
            candidate.makePrimitive();
            return division.goesEvenly(rest, candidate);
        }

        /** Most sets fail here, at little cost: a factor's last coefficient divides that of rest. */
        private boolean hasRightEnd(int set) {
            Residues residues = lift.residues;
            long end = residues.reduce(rest.leading());
            for (int i = 0; i < modular.count; i++) {
                if ((set & (1 << i)) != 0) {
                    end = residues.multiply(end, lift.pieces[i].c[0]);
                }
            }
            end = residues.balance(end);
            return end != 0 && rest.leading() * rest.c[0] % end == 0;
        }

        private void countMultiplicities() {
            if (commonDivisor.answer.degree == 0) {
                return;
            }
            for (int i = 0; i < found.count; i++) {
                int often = 0;
                while (often < TOP && division.goesEvenly(whole, found.parts[i])) {
                    whole.copyFrom(division.quotient);
                    often++;
                }
                found.multiplicities[i] = often;
            }
        }
    }
}
