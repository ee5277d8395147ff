import java.lang.reflect.Method;
import java.util.ArrayList;
import java.util.HashMap;
import java.util.List;
import java.util.Map;
import java.util.Random;

/** Runs of calls made by chance, but the same each time, on MillTown and on the model: their answers must be alike. */
public final class RandomRuns {
    private static final int RUNS = Integer.getInteger("runs", 400);
    private static final int CALLS = 512;
    private static final Map<String, Method> TOWN = methods(MillTown.class);
    private static final Map<String, Method> MODEL = methods(TownModel.class);

    private final Random random;
    private final MillTown town = new MillTown();
    private final TownModel model = new TownModel();
    private final List<String> log = new ArrayList<>();
    private final int loafTop;
    private final int payTop;
    // 0: all calls; 1: mostly lists made from wishes; 2: mostly half time shared by many mills.
    private final int bent;

    private RandomRuns(long seed) {
        random = new Random(seed);
        bent = seed % 8 == 1 ? 1 : seed % 8 == 2 ? 2 : 0;
        loafTop = random.nextInt(3) == 0 ? 400 : 20;
        payTop = random.nextInt(3) == 0 ? 3000 : 60;
    }

    private static Map<String, Method> methods(Class<?> type) {
        Map<String, Method> all = new HashMap<>();
        for (Method m : type.getDeclaredMethods()) {
            if (java.lang.reflect.Modifier.isPublic(m.getModifiers())) {
                all.put(m.getName(), m);
            }
        }
        return all;
    }

    private static long answer(Object target, Method method, Object[] args) throws ReflectiveOperationException {
        Object got = method.invoke(target, args);
        return got instanceof Boolean ? ((Boolean) got ? 1 : 0) : (Integer) got;
    }

    private long call(String name, Object... args) throws ReflectiveOperationException {
        if (log.size() >= CALLS) {
            return 0;
        }
        log.add(name + java.util.Arrays.toString(args));
        long got = answer(town, TOWN.get(name), args);
        long due = answer(model, MODEL.get(name), args);
        if (got != due) {
            throw new IllegalStateException(name + java.util.Arrays.toString(args) + " answered " + got + ", due is "
                    + due);
        }
        return got;
    }

    private int below(int n) {
        return random.nextInt(n);
    }

    private int from(int least, int most) {
        int roll = below(60);
        if (roll == 0) {
            return least - 1;
        }
        if (roll == 1) {
            return most + 1;
        }
        if (roll == 2) {
            return random.nextInt();
        }
        if (roll < 6) {
            return below(2) == 0 ? least : most;
        }
        return least + below(most - least + 1);
    }

    private int count(int what) {
        return Math.max(1, model.about(what));
    }

    private int one(int what) {
        return from(0, count(what) - 1);
    }

    // ---- texts

    private String sum(int deep) {
        StringBuilder all = new StringBuilder(one2(deep));
        int more = below(3);
        for (int i = 0; i < more; i++) {
            all.append(gap()).append("+-*/".charAt(below(4))).append(gap()).append(one2(deep));
        }
        return all.toString();
    }

    private String gap() {
        return new String[] {"", " ", "\n", ""}[below(4)];
    }

    private String one2(int deep) {
        int roll = below(deep > 3 ? 6 : 12);
        if (roll < 3) {
            int top = below(4) == 0 ? 10000 : 20;
            return "" + (below(40) == 0 ? 10000 : below(top));
        }
        if (roll < 6) {
            return new String[] {"picks", "width", "yarn", "hard"}[below(4)];
        }
        if (roll < 8) {
            return "(" + sum(deep + 1) + ")";
        }
        if (roll < 10) {
            return "-" + gap() + one2(deep + 1);
        }
        return (roll == 10 ? "min" : "max") + gap() + "(" + sum(deep + 1) + "," + sum(deep + 1) + ")";
    }

    private String either() {
        StringBuilder all = new StringBuilder();
        int asks = 1 + below(3);
        for (int i = 0; i < asks; i++) {
            if (i > 0) {
                all.append(below(2) == 0 ? " or " : " and ");
            }
            int nots = below(3) == 0 ? 1 + below(3) : 0;
            for (int j = 0; j < nots; j++) {
                all.append("not ");
            }
            all.append(sum(1)).append(new String[] {"<", "<=", ">", ">=", "=", "#"}[below(6)]).append(gap()).append(sum(1));
        }
        return all.toString();
    }

    private String clause() {
        String change = below(2) == 0 ? " add " : " take ";
        switch (below(9)) {
            case 0:
            case 1:
                return "price " + (below(2) == 0 ? "" + below(payTop) : sum(0)) + ";";
            case 2:
                return "extra " + below(below(20) == 0 ? 31 : 5) + change + sum(1) + ";";
            case 3:
                return "when " + either() + change + sum(1) + ";";
            case 4:
                return "least " + below(payTop) + " ;";
            case 5:
                return "meals " + below(below(20) == 0 ? 22 : 7) + ";";
            case 6:
                return "clean " + below(below(20) == 0 ? 22 : 7) + ";";
            default:
                int low = below(below(20) == 0 ? 101 : 40);
                return "age " + low + " to " + (low + below(60)) + " hours " + below(below(9) == 0 ? 82 : 70) + ";";
        }
    }

    private String text() {
        StringBuilder all = new StringBuilder();
        int clauses = below(12) == 0 ? 20 + below(10) : 1 + below(5);
        boolean small = clauses >= 20;
        for (int i = 0; i < clauses; i++) {
            all.append(small ? "price " + below(9) + ";" : clause()).append(gap());
        }
        if (below(12) == 0) {
            deepen(all);
        }
        if (below(4) == 0 && all.length() > 0) {
            spoil(all);
        }
        return all.length() > 300 ? all.substring(0, 300) : all.toString();
    }

    private void deepen(StringBuilder all) {
        StringBuilder open = new StringBuilder(below(2) == 0 ? "price " : "when ");
        boolean asks = open.charAt(0) == 'w';
        int levels = 7 + below(4);
        for (int i = 0; i < levels; i++) {
            open.append(asks && below(2) == 0 ? "not " : new String[] {"(", "-", "max("}[below(3)]);
            asks = asks && open.charAt(open.length() - 1) == ' ';
        }
        open.append("1");
        all.insert(0, open);
    }

    private void spoil(StringBuilder all) {
        int at = below(all.length());
        switch (below(4)) {
            case 0:
                all.setLength(at);
                break;
            case 1:
                all.deleteCharAt(at);
                break;
            case 2:
                all.setCharAt(at, (char) below(256));
                break;
            default:
                all.insert(at, new String[] {"(", ")", ";", " or ", "-", ",", "7", "x", "not ", "<", "take"}[below(11)]);
        }
    }

    private void feed(String text) throws ReflectiveOperationException {
        call("end", 0);
        for (int at = 0; at < text.length(); at += 20) {
            int[] fours = new int[5];
            for (int i = 0; i < 20; i++) {
                int sign = at + i < text.length() ? text.charAt(at + i) : 0;
                fours[i / 4] = fours[i / 4] << 8 | sign;
            }
            call("feed", fours[0], fours[1], fours[2], fours[3], fours[4]);
        }
        call("end", text.length());
        call("text");
        call("fault", 0);
        call("fault", from(0, 1));
    }

    // ---- the town

    private void addOrder() throws ReflectiveOperationException {
        int clock = model.about(0);
        int start = from(clock, clock + 6);
        int end = start < 0 || start > 500 ? start : from(start, Math.max(start, Math.min(399, start + 20)));
        call("order", from(0, below(3) == 0 ? 5 : 1), from(1, below(3) == 0 ? 500 : 40), from(1, below(5) == 0 ? 10000 : 300),
                start, end);
    }

    private void addForce() throws ReflectiveOperationException {
        int clock = model.about(0);
        int start = from(clock, clock + 5);
        call("force", one(5), from(-1, count(1) - 1), start, below(3) == 0 ? 399 : start + below(20));
    }

    private void giveWork() throws ReflectiveOperationException {
        int sort = below(2) == 0 ? 1 : from(0, 4);
        int where = sort == 2 ? one(4) : one(1);
        call("work", one(4), sort, where, from(1, sort == 1 ? 6 : sort == 2 ? 2 : below(3) == 0 ? 50 : 3));
    }

    private void setUp() throws ReflectiveOperationException {
        int mills = bent == 2 ? 3 + below(4) : 1 + below(below(4) == 0 ? 9 : 3);
        for (int i = 0; i < mills; i++) {
            call("mill", from(0, 60), from(50, 200), from(0, below(2) == 0 ? 1000000 : 20000), from(-1000, below(2) == 0 ? -900 : 1000));
        }
        int shops = 1 + below(4);
        for (int i = 0; i < shops; i++) {
            call("shop", from(0, below(2) == 0 ? 100000 : 300), from(0, 400), from(0, below(2) == 0 ? 10 : 1000));
        }
        int homes = bent == 2 ? 10 : 1 + below(below(4) == 0 ? 25 : 8);
        for (int i = 0; i < homes; i++) {
            call("home", one(2), from(0, below(2) == 0 ? 10000 : 100));
        }
        int persons = bent == 2 ? 30 : 1 + below(below(4) == 0 ? 62 : 20);
        for (int i = 0; i < persons; i++) {
            call("person", one(3), from(5, 80), from(1, 10));
            if (below(4) != 0) {
                giveWork();
            }
        }
        call("mean", 1, 1 + below(loafTop));
        for (int i = below(6); i > 0; i--) {
            call("kind", from(0, 5), from(10, 200), from(20, 60), from(1, 50), from(0, 9), below(64));
        }
        feed("price " + below(payTop) + ";" + (below(2) == 0 ? "extra " + below(5) + " add picks/7;" : ""));
        call("force", 0, -1, 0, 399);
        for (int i = 1 + below(5); i > 0; i--) {
            addOrder();
        }
    }

    private void tell() throws ReflectiveOperationException {
        switch (below(12)) {
            case 0:
                call("kind", from(0, 5), from(10, 200), from(20, 60), from(1, 50), from(0, 9), from(0, (1 << 30) - 1));
                break;
            case 1:
            case 2:
                int what = from(0, below(2) == 0 ? 1 : 7);
                int clock = model.about(0);
                call("price", what, from(Math.max(0, clock - 2), Math.min(399, clock + 4)),
                        below(4) == 0 ? -1 : from(1, what == 1 ? loafTop : below(8) == 0 ? 100000 : 2000));
                break;
            case 3:
                int which = from(0, 7);
                call("mean", which, from(1, which == 1 ? loafTop : 2000));
                break;
            case 4:
                call("terms", from(0, below(2) == 0 ? 20 : 1000), from(1, below(2) == 0 ? 100000 : 1500));
                break;
            case 5:
                call("fund", from(0, below(2) == 0 ? 100000 : 200), from(0, 50), from(0, below(2) == 0 ? 500 : 60));
                break;
            case 6:
                call("strike", one(1), below(2) == 0);
                break;
            case 7:
                call("person", one(3), from(5, 80), from(1, 10));
                break;
            case 8:
                call(new String[] {"image", "back", "image"}[below(3)]);
                break;
            case 9:
                call("mill", from(0, 60), from(50, 200), from(0, 1000000), from(-1000, 1000));
                call("home", one(2), from(0, 500));
                break;
            default:
                giveWork();
        }
    }

    private void ask() throws ReflectiveOperationException {
        int clock = model.about(0);
        int near = from(Math.max(0, clock - 4), Math.min(399, clock + 8));
        int known = from(Math.max(0, clock - 4), Math.min(399, clock + 1));
        switch (below(17)) {
            case 0:
                call("pay", from(0, 5), one(1), near, known);
                break;
            case 1:
                int kind = from(0, 5);
                int mill = one(1);
                call("pay", kind, mill, near, known);
                for (int i = -1; i < 3; i++) {
                    call("why", kind, mill, near, known, i);
                }
                break;
            case 2:
                call("hours", from(0, 99), one(1), near, known);
                break;
            case 3:
                call("millOf", one(1), from(0, 9));
                break;
            case 4:
                call("homeOf", one(3), from(0, 6));
                break;
            case 5:
                call("personOf", one(4), from(0, 8));
                break;
            case 6:
                call("shopOf", one(2), from(0, 2));
                break;
            case 7:
                call("orderOf", one(7), from(0, 4));
                break;
            case 8:
                call("book", one(3), from(0, Math.max(0, clock - 1)), from(0, 1));
                break;
            case 9:
                call("tried", from(-1, count(5) - 1), from(-1, count(1) - 1), from(1, below(3) == 0 ? 30 : 6), from(0, 6));
                break;
            case 10:
                call("shared", from(0, below(2) == 0 ? 40 : 400), from(-2, count(1) - 1));
                break;
            case 11:
                call("loaf", from(0, count(9) - 1), from(0, 4));
                break;
            case 12:
                call("sheet", from(0, Math.max(0, clock - 1)));
                call("onSheet", one(1), one(3));
                break;
            case 13:
                call("alter", one(1), one(3), from(0, 2));
                call("check", from(0, 2));
                break;
            case 14:
                call("about", from(0, 15));
                break;
            case 15:
                call("priceOf", from(0, 7), near);
                break;
            default:
                bargain();
        }
    }

    private void askBent() throws ReflectiveOperationException {
        if (bent == 2) {
            int most = from(0, below(3) == 0 ? 400 : 60);
            for (int what = -2; what < count(1); what++) {
                call("shared", most, what);
            }
            return;
        }
        if (below(3) == 0) {
            call("wish", from(0, 5), below(4) == 0 ? -1 : from(0, below(8) == 0 ? 10000 : 400));
        }
        if (below(4) == 0) {
            call("kind", from(0, 5), from(10, 200), from(20, 60), 10, 0, 0);
        }
        int base = from(0, 40);
        int a = from(0, 40);
        int b = from(0, 40);
        for (int what = 0; what < 4; what++) {
            call("made", base, a, b, what);
        }
    }

    private void bargain() throws ReflectiveOperationException {
        switch (below(8)) {
            case 0:
            case 1:
                call("offer", from(0, 1), from(0, 1000));
                break;
            case 2:
                call("meet");
                break;
            case 3:
            case 4:
                call("wish", from(0, 5), below(5) == 0 ? -1 : from(0, below(8) == 0 ? 10000 : 300));
                break;
            case 5:
                call("proof", from(0, 5), from(0, 5));
                break;
            default:
                call("made", from(0, 40), from(0, 40), from(0, 40), from(0, 3));
        }
    }

    private void run() throws ReflectiveOperationException {
        setUp();
        while (log.size() < CALLS) {
            int roll = below(20);
            if (bent != 0 && roll < 8) {
                askBent();
            } else if (roll < 5) {
                tell();
            } else if (roll < 6) {
                feed(text());
                addForce();
            } else if (roll < 7) {
                addForce();
            } else if (roll < 9) {
                addOrder();
            } else if (roll < 12) {
                call("weeks", below(12) == 0 ? from(1, 52) : 1 + below(2));
            } else {
                ask();
            }
        }
        compareAll();
    }

    /** At the end everything that can be asked is asked; these calls are not counted among the 512. */
    private void compareAll() throws ReflectiveOperationException {
        List<String> calls = new ArrayList<>(log);
        log.clear();
        String[] names = {"millOf", "homeOf", "personOf", "shopOf", "orderOf", "loaf", "about"};
        int[] rows = {8, 24, 60, 4, 80, model.about(9), 0};
        for (int i = 0; i < names.length; i++) {
            for (int row = 0; row < rows[i]; row += i == 5 ? 7 : 1) {
                for (int what = 0; what < 10; what++) {
                    log.clear();
                    call(names[i], row, what);
                }
            }
        }
        for (int what = -1; what < 17; what++) {
            call("about", what);
        }
        log.clear();
        log.addAll(calls);
    }

    public static void main(String[] args) throws ReflectiveOperationException {
        int wrong = 0;
        Map<String, Integer> asked = new HashMap<>();
        for (int seed = 1; seed <= RUNS && wrong < 5; seed++) {
            RandomRuns one = new RandomRuns(seed);
            try {
                one.run();
            } catch (IllegalStateException | ReflectiveOperationException e) {
                wrong++;
                System.out.println("run " + seed + ", call " + one.log.size() + ": " + e.getMessage());
                if (e.getCause() != null) {
                    e.getCause().printStackTrace(System.out);
                }
            }
            for (String line : one.log) {
                asked.merge(line.substring(0, line.indexOf('[')), 1, Integer::sum);
            }
        }
        System.out.println(RUNS + " runs, calls of " + asked.size() + " kinds; wrong: " + wrong);
        if (wrong != 0 || asked.size() != TOWN.size()) {
            System.exit(1);
        }
    }
}
