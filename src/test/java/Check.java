import java.util.ArrayList;
import java.util.List;

/** What the tests share: it counts the answers that are not due and prints them. */
final class Check {
    private static int asked = 0;
    private static int wrong = 0;

    private Check() {
    }

    static void due(String call, Object got, Object want) {
        asked++;
        if (!String.valueOf(got).equals(String.valueOf(want))) {
            wrong++;
            System.out.println(call + " answered " + got + ", due is " + want);
        }
    }

    /** The name of what a call throws, or what it answers. */
    static String answer(java.util.concurrent.Callable<?> call) {
        try {
            return String.valueOf(call.call());
        } catch (Exception e) {
            return e.getClass().getSimpleName();
        }
    }

    static void finish(String name) {
        System.out.println(name + ": " + asked + " answers, " + wrong + " wrong");
        if (wrong > 0 || asked == 0) {
            System.exit(1);
        }
    }

    static FactorDesk desk(int... coefficients) {
        FactorDesk desk = new FactorDesk();
        put(desk, coefficients);
        desk.take();
        return desk;
    }

    static void put(FactorDesk desk, int... coefficients) {
        for (int c : coefficients) {
            desk.put(c);
        }
    }

    static String polynomial(FactorDesk desk) {
        List<Integer> row = new ArrayList<>();
        for (int k = 0; k <= desk.degree(); k++) {
            row.add(desk.at(k));
        }
        return row.toString();
    }

    /** The factors that are told, each as its coefficients and its multiplicity. */
    static String told(FactorDesk desk) {
        StringBuilder text = new StringBuilder();
        for (int i = 0; !answer(tell(desk, i)).equals("NoSuchElementException"); i++) {
            List<Long> row = new ArrayList<>();
            for (int k = 0; k <= desk.factor(i, 0); k++) {
                row.add(desk.part(i, k));
            }
            text.append(row).append('^').append(desk.factor(i, 1)).append(' ');
        }
        return text.toString().trim();
    }

    private static java.util.concurrent.Callable<Integer> tell(FactorDesk desk, int i) {
        return () -> desk.factor(i, 0);
    }

    static String divisor(FactorDesk desk) {
        List<Long> row = new ArrayList<>();
        for (int k = 0; k <= 12; k++) {
            int place = k;
            if (!answer(() -> desk.divisor(place)).equals("NoSuchElementException")) {
                row.add(desk.divisor(k));
            }
        }
        return row.toString();
    }

    /** All that can be seen of a desk without touching its tape. */
    static String state(FactorDesk desk) {
        return polynomial(desk) + " " + told(desk) + " " + divisor(desk);
    }
}
