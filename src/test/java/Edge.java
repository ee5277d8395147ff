import java.util.ArrayList;
import java.util.Arrays;
import java.util.List;
import java.util.function.BooleanSupplier;
import java.util.function.IntPredicate;
import java.util.function.IntSupplier;
import java.util.function.IntUnaryOperator;

/** The test of one sentence of the document: where it names an edge, what is due on the edge and on either side of it. */
final class Edge {
    private static final int NONE = MillTown.NONE;

    private final List<String> wrong = new ArrayList<>();
    private int asked;

    int asked() {
        return asked;
    }

    List<String> wrong() {
        return wrong;
    }

    void fail(String what) {
        wrong.add(what);
    }

    void is(String call, long got, long due) {
        asked++;
        if (got != due) {
            fail(call + " answered " + got + ", due is " + due);
        }
    }

    void yes(String call, boolean got) {
        is(call, got ? 1 : 0, 1);
    }

    void no(String call, boolean got) {
        is(call, got ? 1 : 0, 0);
    }

    /** What a call answers for 0, 1 and so on. */
    static int[] facts(int count, IntUnaryOperator fact) {
        int[] all = new int[count];
        Arrays.setAll(all, fact);
        return all;
    }

    void are(String call, int[] got, int... due) {
        is(call + ": how many", got.length, due.length);
        for (int i = 0; i < Math.min(got.length, due.length); i++) {
            is(call + " " + i, got[i], due[i]);
        }
    }

    /** Taken from the least to the most, and not beside them, nor far off. */
    void range(String of, int least, int most, IntPredicate taken) {
        int[] inside = {least, Math.min(least + 1, most), Math.max(most - 1, least), most};
        int[] outside = {least - 1, most + 1, Integer.MIN_VALUE, Integer.MAX_VALUE};
        for (int v : inside) {
            yes(of + " " + v, taken.test(v));
        }
        for (int v : outside) {
            no(of + " " + v, taken.test(v));
        }
    }

    /** The call answers false, and all that can be seen of the town is behind it as it was. */
    void refused(MillTown town, String call, BooleanSupplier told) {
        int[] was = seen(town);
        no(call, told.getAsBoolean());
        same(call, was, seen(town));
    }

    /** The call answers NONE, and all that can be seen of the town is behind it as it was. */
    void none(MillTown town, String call, IntSupplier told) {
        unchanged(town, call, told, NONE);
    }

    /** The call answers what is due, and all that can be seen of the town is behind it as it was. */
    void unchanged(MillTown town, String call, IntSupplier told, int due) {
        int[] was = seen(town);
        is(call, told.getAsInt(), due);
        same(call, was, seen(town));
    }

    void same(String call, int[] was, int[] is) {
        asked++;
        if (!Arrays.equals(was, is)) {
            fail(call + " changed what answer " + Arrays.mismatch(was, is) + " of all tells");
        }
    }

    /** All that calls tell of a town and that isn't changed by telling it. */
    static int[] seen(MillTown t) {
        List<Integer> all = new ArrayList<>();
        for (int what = 0; what <= 15; what++) {
            all.add(t.about(what));
        }
        for (int i = 0; i < 80; i++) {
            for (int what = 0; what < 10; what++) {
                all.add(i < 9 ? t.millOf(i, what) : NONE);
                all.add(i < 25 ? t.homeOf(i, what) : NONE);
                all.add(i < 61 ? t.personOf(i, what) : NONE);
                all.add(i < 5 ? t.shopOf(i, what) : NONE);
                all.add(t.orderOf(i, what));
            }
        }
        for (int what = 0; what < 8; what++) {
            for (int week : new int[] {0, 1, 2, 3, 4, 5, 6, 7, 398, 399}) {
                all.add(t.priceOf(what, week));
            }
        }
        seenTexts(t, all);
        seenBooks(t, all);
        seenPlans(t, all);
        return all.stream().mapToInt(Integer::intValue).toArray();
    }

    private static void seenTexts(MillTown t, List<Integer> all) {
        all.add(t.fault(0));
        all.add(t.fault(1));
        for (int mill = 0; mill < t.about(1); mill++) {
            for (int week : new int[] {0, t.about(0), 399}) {
                for (int kind = 0; kind < 6; kind++) {
                    all.add(t.pay(kind, mill, week, t.about(0)));
                    all.add(t.why(kind, mill, week, t.about(0), NONE));
                    all.add(t.why(kind, mill, week, t.about(0), 0));
                }
                for (int age = 0; age < 100; age += 3) {
                    all.add(t.hours(age, mill, week, t.about(0)));
                }
            }
        }
    }

    private static void seenBooks(MillTown t, List<Integer> all) {
        for (int week = Math.max(0, t.about(0) - 5); week < t.about(0); week++) {
            for (int home = 0; home < t.about(3); home++) {
                all.add(t.book(home, week, 0));
                all.add(t.book(home, week, 1));
            }
        }
        for (int what = 0; what < 5; what++) {
            all.add(t.loaf(0, what));
            all.add(t.loaf(t.about(9) - 1, what));
            all.add(t.check(what));
        }
        for (int mill = 0; mill < 8; mill++) {
            for (int home = 0; home < 24; home++) {
                all.add(t.onSheet(mill, home));
            }
        }
    }

    private static void seenPlans(MillTown t, List<Integer> all) {
        for (int what = 0; what < 7; what++) {
            all.add(t.tried(NONE, NONE, 1, what));
            all.add(t.made(9, 9, 9, what));
            all.add(t.shared(7, what));
        }
        all.add(t.shared(7, NONE));
        all.add(t.shared(7, -2));
        for (int first = 0; first < 6; first++) {
            for (int second = 0; second < 6; second++) {
                all.add(t.proof(first, second) ? 1 : 0);
            }
        }
    }
}
