import java.io.ByteArrayInputStream;
import java.io.ByteArrayOutputStream;
import java.io.IOException;
import java.io.ObjectInputStream;
import java.io.ObjectOutputStream;
import java.io.Serializable;
import java.math.BigInteger;
import java.util.ArrayList;
import java.util.Arrays;
import java.util.List;
import java.util.TreeMap;

/**
 * The document told a second time, as plainly as it goes and without any care for speed or room: lists, exact
 * fractions of any size, whole copies, every plan and every list tried. RandomRuns holds MillTown against it.
 */
public final class TownModel {
    static final int NONE = -1;

    static final class Kind implements Serializable {
        int picks = 60, width = 30, yarn = 10, hard = 0, extras = 0;
        int wish = NONE;
    }

    static final class Mill implements Serializable {
        int looms, speed, least, yarn, run, made, kind = NONE, order = NONE;
        long coins;
        boolean closed, struck;
        int took;
    }

    static final class Shop implements Serializable {
        long coins;
        int trust, rent;
        boolean failed;
    }

    static final class Home implements Serializable {
        int shop;
        long coins, debt;
        boolean gone;
        List<Integer> earned = new ArrayList<>();
        List<Integer> hunger = new ArrayList<>();
    }

    static final class Person implements Serializable {
        int home, age, skill, sort, n, mill = NONE, teacher = NONE, rest, wages;
    }

    static final class Order implements Serializable {
        int kind, left, price, from, to, taken;
    }

    static final class Force implements Serializable {
        int text, mill, from, to, told;
    }

    static final class Loaf implements Serializable {
        int home, week, person = NONE, mill = NONE, order = NONE;
    }

    /** A number of two parts; null stands for LOST. */
    static final class Part implements Serializable {
        final BigInteger above, below;

        private Part(BigInteger above, BigInteger below) {
            this.above = above;
            this.below = below;
        }

        static Part of(BigInteger over, BigInteger under) {
            if (under.signum() == 0) {
                return null;
            }
            BigInteger g = over.gcd(under);
            if (under.signum() < 0) {
                g = g.negate();
            }
            BigInteger most = BigInteger.valueOf(1000000000L);
            BigInteger a = over.divide(g), b = under.divide(g);
            return a.abs().compareTo(most) > 0 || b.compareTo(most) > 0 ? null : new Part(a, b);
        }

        static Part of(long n) {
            return of(BigInteger.valueOf(n), BigInteger.ONE);
        }

        static Part join(char sign, Part l, Part r) {
            if (l == null || r == null) {
                return null;
            }
            switch (sign) {
                case '+':
                    return of(l.above.multiply(r.below).add(r.above.multiply(l.below)), l.below.multiply(r.below));
                case '-':
                    return of(l.above.multiply(r.below).subtract(r.above.multiply(l.below)), l.below.multiply(r.below));
                case '*':
                    return of(l.above.multiply(r.above), l.below.multiply(r.below));
                default:
                    return of(l.above.multiply(r.below), l.below.multiply(r.above));
            }
        }

        int compare(Part r) {
            return above.multiply(r.below).compareTo(r.above.multiply(below));
        }
    }

    /** A part of a TEXT that was read: a word or sign, and what stands under it. */
    static final class Node implements Serializable {
        final String what;
        final List<Node> parts = new ArrayList<>();
        int number;

        Node(String what, Node... under) {
            this.what = what;
            parts.addAll(Arrays.asList(under));
        }

        Part sum(Kind k) {
            switch (what) {
                case "number":
                    return Part.of(number);
                case "picks":
                    return Part.of(k.picks);
                case "width":
                    return Part.of(k.width);
                case "yarn":
                    return Part.of(k.yarn);
                case "hard":
                    return Part.of(k.hard);
                case "neg":
                    return Part.join('-', Part.of(0), parts.get(0).sum(k));
                case "min":
                case "max":
                    Part l = parts.get(0).sum(k), r = parts.get(1).sum(k);
                    if (l == null || r == null) {
                        return null;
                    }
                    return l.compare(r) <= 0 == what.equals("min") ? l : r;
                default:
                    return Part.join(what.charAt(0), parts.get(0).sum(k), parts.get(1).sum(k));
            }
        }

        boolean so(Kind k) {
            switch (what) {
                case "or":
                    return parts.get(0).so(k) | parts.get(1).so(k);
                case "and":
                    return parts.get(0).so(k) & parts.get(1).so(k);
                case "not":
                    return !parts.get(0).so(k);
                default:
                    Part l = parts.get(0).sum(k), r = parts.get(1).sum(k);
                    if (l == null || r == null) {
                        return false;
                    }
                    int c = l.compare(r);
                    return what.equals("<") ? c < 0 : what.equals("<=") ? c <= 0 : what.equals(">") ? c > 0
                            : what.equals(">=") ? c >= 0 : what.equals("=") ? c == 0 : c != 0;
            }
        }
    }

    static final class Clause implements Serializable {
        String sort;
        int number, to, hours;
        boolean takes;
        Node either, sum;
    }

    /** Thrown where a tape can't be read on. */
    static final class Wrong extends RuntimeException {
        final int what, place;

        Wrong(int what, int place) {
            this.what = what;
            this.place = place;
        }
    }

    static final class Parser {
        final List<String> tokens = new ArrayList<>();
        final List<Integer> places = new ArrayList<>();
        int at;

        Parser(List<Integer> tape) {
            StringBuilder all = new StringBuilder();
            for (int b : tape) {
                all.append((char) b);
            }
            java.util.regex.Matcher m = java.util.regex.Pattern
                    .compile("[a-zA-Z]+|[0-9]+|<=|>=|[ \\n]|(?s:.)").matcher(all);
            while (m.find()) {
                if (!m.group().equals(" ") && !m.group().equals("\n")) {
                    tokens.add(m.group());
                    places.add(m.start());
                }
            }
            tokens.add("");
            places.add(tape.size());
        }

        String see() {
            return tokens.get(at);
        }

        Wrong wrong(int what) {
            return new Wrong(what, places.get(at));
        }

        void take(String token) {
            if (!see().equals(token)) {
                throw wrong(1);
            }
            at++;
        }

        boolean isNumber() {
            return !see().isEmpty() && Character.isDigit(see().charAt(0)) && see().charAt(0) < 128;
        }

        int number(int least, int most) {
            if (!isNumber()) {
                throw wrong(1);
            }
            BigInteger n = new BigInteger(see());
            if (n.compareTo(BigInteger.valueOf(least)) < 0 || n.compareTo(BigInteger.valueOf(most)) > 0) {
                throw wrong(2);
            }
            at++;
            return n.intValue();
        }

        List<Clause> text() {
            List<Clause> all = new ArrayList<>();
            while (!see().isEmpty()) {
                if (!Arrays.asList("price", "extra", "when", "least", "age", "meals", "clean").contains(see())) {
                    throw wrong(1);
                }
                if (all.size() == 24) {
                    throw wrong(4);
                }
                all.add(clause());
            }
            return all;
        }

        Clause clause() {
            Clause c = new Clause();
            c.sort = see();
            at++;
            switch (c.sort) {
                case "price":
                    c.sum = sum(0);
                    break;
                case "extra":
                    c.number = number(0, 29);
                    addOrTake(c);
                    break;
                case "when":
                    c.either = either();
                    addOrTake(c);
                    break;
                case "age":
                    c.number = number(0, 99);
                    take("to");
                    c.to = number(c.number, 99);
                    take("hours");
                    c.hours = number(0, 80);
                    break;
                default:
                    c.number = number(0, c.sort.equals("least") ? 9999 : 20);
            }
            take(";");
            return c;
        }

        void addOrTake(Clause c) {
            c.takes = see().equals("take");
            take(c.takes ? "take" : "add");
            c.sum = sum(0);
        }

        Node either() {
            Node n = both();
            while (see().equals("or")) {
                at++;
                n = new Node("or", n, both());
            }
            return n;
        }

        Node both() {
            Node n = ask(0);
            while (see().equals("and")) {
                at++;
                n = new Node("and", n, ask(0));
            }
            return n;
        }

        Node ask(int open) {
            if (see().equals("not")) {
                if (open == 8) {
                    throw wrong(3);
                }
                at++;
                return new Node("not", ask(open + 1));
            }
            Node l = sum(open);
            String sign = see();
            if (!Arrays.asList("<", "<=", ">", ">=", "=", "#").contains(sign)) {
                throw wrong(1);
            }
            at++;
            return new Node(sign, l, sum(open));
        }

        Node sum(int open) {
            Node n = product(open);
            while (see().equals("+") || see().equals("-")) {
                String sign = see();
                at++;
                n = new Node(sign, n, product(open));
            }
            return n;
        }

        Node product(int open) {
            Node n = one(open);
            while (see().equals("*") || see().equals("/")) {
                String sign = see();
                at++;
                n = new Node(sign, n, one(open));
            }
            return n;
        }

        Node one(int open) {
            String s = see();
            if (isNumber()) {
                Node n = new Node("number");
                n.number = number(0, 9999);
                return n;
            }
            if (Arrays.asList("picks", "width", "yarn", "hard").contains(s)) {
                at++;
                return new Node(s);
            }
            if (s.equals("-")) {
                deep(open);
                at++;
                return new Node("neg", one(open + 1));
            }
            if (s.equals("(")) {
                deep(open);
                at++;
                Node n = sum(open + 1);
                take(")");
                return n;
            }
            if (s.equals("min") || s.equals("max")) {
                at++;
                if (see().equals("(")) {
                    deep(open);
                }
                take("(");
                Node l = sum(open + 1);
                take(",");
                Node r = sum(open + 1);
                take(")");
                return new Node(s, l, r);
            }
            throw wrong(1);
        }

        void deep(int open) {
            if (open == 8) {
                throw wrong(3);
            }
        }
    }

    static final class State implements Serializable {
        int clock, rail, dear = 100000, levy, relief, hands = NONE, masters = NONE;
        long fund;
        Kind[] kinds = new Kind[6];
        List<TreeMap<Integer, Integer>> told = new ArrayList<>();
        int[] means = {1000, 6, 60, 60, 60, 60, 60, 60};
        List<Mill> mills = new ArrayList<>();
        List<Shop> shops = new ArrayList<>();
        List<Home> homes = new ArrayList<>();
        List<Person> persons = new ArrayList<>();
        List<List<Clause>> texts = new ArrayList<>();
        List<Force> forces = new ArrayList<>();
        List<Order> orders = new ArrayList<>();
        List<Loaf> loaves = new ArrayList<>();
        List<int[][]> sheets = new ArrayList<>();
        long allEarned, allHunger, allMade, allPaid;

        State() {
            for (int k = 0; k < 6; k++) {
                kinds[k] = new Kind();
            }
            for (int w = 0; w < 8; w++) {
                told.add(new TreeMap<>());
            }
        }

        State copy() {
            try {
                ByteArrayOutputStream bytes = new ByteArrayOutputStream();
                ObjectOutputStream out = new ObjectOutputStream(bytes);
                out.writeObject(this);
                out.flush();
                return (State) new ObjectInputStream(new ByteArrayInputStream(bytes.toByteArray())).readObject();
            } catch (IOException | ClassNotFoundException e) {
                throw new IllegalStateException(e);
            }
        }

        int price(int what, int week) {
            if (week < 0 || !told.get(what).containsKey(week)) {
                return means[what];
            }
            int v = told.get(what).get(week);
            return v == NONE ? price(what, week - 1) : v;
        }

        int force(String sort, int mill, int week, int known) {
            int found = NONE;
            for (int i = 0; i < forces.size(); i++) {
                Force f = forces.get(i);
                if ((f.mill == NONE || f.mill == mill) && f.from <= week && week <= f.to && f.told <= known
                        && texts.get(f.text).stream().anyMatch(c -> c.sort.equals(sort))) {
                    found = i;
                }
            }
            return found;
        }

        int pay(int kind, int mill, int week, int known, List<Integer> counted) {
            int f = force("price", mill, week, known);
            if (f == NONE) {
                return 0;
            }
            List<Clause> text = texts.get(forces.get(f).text);
            Kind k = kinds[kind];
            Part whole = Part.of(0);
            for (int i = 0; i < text.size(); i++) {
                if (text.get(i).sort.equals("price")) {
                    whole = Part.join('+', whole, text.get(i).sum.sum(k));
                }
            }
            int least = 0;
            for (int i = 0; i < text.size(); i++) {
                Clause c = text.get(i);
                boolean extra = c.sort.equals("extra") && (k.extras >> c.number & 1) == 1;
                boolean when = c.sort.equals("when") && c.either.so(k);
                if (extra || when) {
                    whole = Part.join(c.takes ? '-' : '+', whole, c.sum.sum(k));
                }
                if (extra || when || c.sort.equals("price")) {
                    counted.add(i);
                }
                if (c.sort.equals("least")) {
                    least = Math.max(least, c.number);
                }
            }
            if (whole == null) {
                counted.clear();
                return 0;
            }
            return Math.min(100000, Math.max(least, whole.above.divide(whole.below).intValue()));
        }

        int greatest(String sort, int mill, int week, int known) {
            int f = force(sort, mill, week, known);
            int most = 0;
            if (f != NONE) {
                for (Clause c : texts.get(forces.get(f).text)) {
                    most = c.sort.equals(sort) ? Math.max(most, c.number) : most;
                }
            }
            return most;
        }

        int hours(int age, int mill, int week, int known) {
            int f = force("age", mill, week, known);
            int hours = f == NONE ? 60 : 0;
            if (f != NONE) {
                for (Clause c : texts.get(forces.get(f).text)) {
                    if (c.sort.equals("age") && c.number <= age && age <= c.to) {
                        hours = c.hours;
                        break;
                    }
                }
            }
            return Math.max(0, hours - greatest("meals", mill, week, known) - greatest("clean", mill, week, known));
        }

        int cost(int kind) {
            return kinds[kind].picks * kinds[kind].width * (10 + kinds[kind].hard);
        }

        int points(Person p, int hours) {
            return p.n * hours * mills.get(p.mill).speed * p.skill;
        }

        boolean weaves(Person p) {
            return p.sort == 1 || p.sort == 2;
        }

        void end(int person) {
            Person p = persons.get(person);
            if (p.sort == 1) {
                for (Person l : persons) {
                    if (l.sort == 2 && l.teacher == person) {
                        idle(l);
                    }
                }
            }
            idle(p);
        }

        static void idle(Person p) {
            p.sort = 0;
            p.n = 0;
            p.mill = NONE;
            p.teacher = NONE;
            p.rest = 0;
        }

        void week() {
            int w = clock;
            int cotton = price(0, w);
            int[] pays = new int[8];
            orders.forEach(o -> o.taken = 0);
            for (int m = 0; m < mills.size(); m++) {
                takeOne(m, w, cotton, pays);
            }
            int[] wages = weaveAll(w, cotton, pays);
            long[] bill = new long[8];
            for (int p = 0; p < wages.length; p++) {
                if (persons.get(p).mill != NONE) {
                    bill[persons.get(p).mill] += wages[p];
                    allPaid += wages[p];
                }
            }
            for (int m = 0; m < mills.size(); m++) {
                Mill mill = mills.get(m);
                mill.coins -= bill[m];
                if (mill.order != NONE) {
                    Order o = orders.get(mill.order);
                    mill.coins += (long) mill.made * (o.price - rail);
                    o.left -= mill.made;
                    allMade += mill.made;
                }
                mill.closed |= mill.coins < 0;
            }
            for (int p = 0; p < wages.length; p++) {
                if (wages[p] >= levy) {
                    wages[p] -= levy;
                    fund += levy;
                }
            }
            int[][] sheet = new int[8][24];
            for (int p = 0; p < wages.length; p++) {
                Person one = persons.get(p);
                if (one.mill != NONE && mills.get(one.mill).struck && fund >= relief) {
                    fund -= relief;
                    wages[p] += relief;
                }
                one.wages = wages[p];
                if (one.mill != NONE) {
                    sheet[one.mill][one.home] += wages[p];
                }
            }
            sheets.add(sheet);
            int loaf = price(1, w);
            for (int h = 0; h < homes.size(); h++) {
                if (homes.get(h).gone) {
                    homes.get(h).earned.add(0);
                    homes.get(h).hunger.add(0);
                } else {
                    keep(h, w, loaf);
                }
            }
            for (Shop s : shops) {
                if (!s.failed) {
                    s.coins -= s.rent;
                    s.failed = s.coins < 0;
                }
            }
            for (int h = 0; h < homes.size(); h++) {
                List<Integer> hunger = homes.get(h).hunger;
                boolean all = hunger.size() >= 4;
                for (int i = 0; all && i < 4; i++) {
                    all = hunger.get(hunger.size() - 1 - i) > 0;
                }
                if (all) {
                    homes.get(h).gone = true;
                    for (int p = 0; p < persons.size(); p++) {
                        if (persons.get(p).home == h) {
                            end(p);
                        }
                    }
                }
            }
            clock++;
        }

        void takeOne(int m, int w, int cotton, int[] pays) {
            Mill mill = mills.get(m);
            mill.run = 0;
            mill.order = NONE;
            mill.made = 0;
            mill.took = 0;
            if (mill.closed || mill.struck) {
                return;
            }
            int best = NONE;
            int bestGain = 0;
            for (int i = 0; i < orders.size(); i++) {
                Order o = orders.get(i);
                if (o.from > w || o.to < w || o.left - o.taken <= 0) {
                    continue;
                }
                int gain = o.price - rail - pay(o.kind, m, w, w, new ArrayList<>()) - kinds[o.kind].yarn * cotton / 400;
                if (best == NONE || gain > bestGain || gain == bestGain && o.to < orders.get(best).to) {
                    best = i;
                    bestGain = gain;
                }
            }
            if (best == NONE || bestGain < mill.least) {
                return;
            }
            Order o = orders.get(best);
            int can = 0;
            for (Person p : persons) {
                if (p.mill == m && weaves(p)) {
                    if (mill.kind != o.kind) {
                        p.rest = 0;
                    }
                    can += (p.rest + points(p, hours(p.age, m, w, w))) / cost(o.kind);
                }
            }
            mill.kind = o.kind;
            if (can == 0) {
                return;
            }
            mill.order = best;
            mill.took = Math.min(can, o.left - o.taken);
            o.taken += mill.took;
            mill.run = mill.took * 2 >= can && cotton <= dear ? 2 : 1;
            pays[m] = pay(o.kind, m, w, w, new ArrayList<>());
        }

        int[] weaveAll(int w, int cotton, int[] pays) {
            int[] wages = new int[persons.size()];
            for (int i = 0; i < wages.length; i++) {
                Person p = persons.get(i);
                if (p.mill == NONE || mills.get(p.mill).run == 0) {
                    continue;
                }
                Mill mill = mills.get(p.mill);
                int hours = hours(p.age, p.mill, w, w);
                hours = mill.run == 2 ? hours : hours / 2;
                if (!weaves(p)) {
                    wages[i] += hours * p.n;
                    continue;
                }
                int all = p.rest + points(p, hours);
                int cost = cost(mill.kind);
                int yarn = kinds[mill.kind].yarn;
                int pieces = Math.min(all / cost, mill.took - mill.made);
                while (mill.yarn < pieces * yarn && mill.coins >= cotton) {
                    mill.coins -= cotton;
                    mill.yarn += 360;
                }
                pieces = Math.min(pieces, mill.yarn / yarn);
                mill.yarn -= pieces * yarn;
                mill.made += pieces;
                p.rest = Math.min(all - pieces * cost, cost - 1);
                int worth = pieces * pays[p.mill];
                if (p.sort == 2) {
                    wages[i] += worth / 3;
                    wages[p.teacher] += worth - worth / 3;
                } else {
                    wages[i] += worth;
                }
            }
            return wages;
        }

        int need(int home) {
            return persons.stream().filter(p -> p.home == home).mapToInt(p -> p.age >= 13 ? 4 : 2).sum();
        }

        void keep(int h, int w, int loaf) {
            Home home = homes.get(h);
            int earned = 0;
            List<Integer> coinOf = new ArrayList<>();
            for (int p = 0; p < persons.size(); p++) {
                if (persons.get(p).home == h) {
                    earned += persons.get(p).wages;
                    coinOf.add(p);
                }
            }
            home.coins += earned;
            home.earned.add(earned);
            allEarned += earned;
            long four = 0;
            for (int i = 0; i < 4 && i < home.earned.size(); i++) {
                four += home.earned.get(home.earned.size() - 1 - i);
            }
            int need = need(h);
            int had = 0;
            while (had < need && home.coins >= loaf) {
                home.coins -= loaf;
                Loaf l = new Loaf();
                l.home = h;
                l.week = w;
                int to = had * loaf;
                for (int p : coinOf) {
                    if (to >= 0 && to < persons.get(p).wages) {
                        l.person = p;
                        l.mill = persons.get(p).mill;
                        l.order = l.mill == NONE ? NONE : mills.get(l.mill).order;
                        break;
                    }
                    to -= persons.get(p).wages;
                }
                loaves.add(l);
                had++;
            }
            Shop shop = shops.get(home.shop);
            while (had < need && !shop.failed && shop.coins >= loaf && home.debt + loaf <= shop.trust * four / 400) {
                shop.coins -= loaf;
                home.debt += loaf;
                Loaf l = new Loaf();
                l.home = h;
                l.week = w;
                loaves.add(l);
                had++;
            }
            home.hunger.add(need - had);
            allHunger += need - had;
            if (had == need) {
                long pays = Math.min(home.coins, home.debt);
                home.coins -= pays;
                home.debt -= pays;
                shop.coins += pays;
            }
        }
    }

    private State s = new State();
    private State image = new State();
    private final List<Integer> tape = new ArrayList<>();
    private int fault = NONE, place = NONE;
    private int[][] sheet;
    private int sheetWeek;

    static boolean in(int v, int least, int most) {
        return v >= least && v <= most;
    }

    public boolean kind(int k, int picks, int width, int yarn, int hard, int extras) {
        if (!in(k, 0, 5) || !in(picks, 10, 200) || !in(width, 20, 60) || !in(yarn, 1, 50) || !in(hard, 0, 9)
                || extras < 0 || extras >> 30 != 0 || s.orders.stream().anyMatch(o -> o.kind == k)) {
            return false;
        }
        Kind kind = s.kinds[k];
        kind.picks = picks;
        kind.width = width;
        kind.yarn = yarn;
        kind.hard = hard;
        kind.extras = extras;
        return true;
    }

    public boolean price(int what, int week, int v) {
        if (!in(what, 0, 7) || !in(week, 0, 399) || !(v == NONE || in(v, 1, 100000))) {
            return false;
        }
        s.told.get(what).put(week, v);
        return true;
    }

    public boolean mean(int what, int v) {
        if (!in(what, 0, 7) || !in(v, 1, 100000)) {
            return false;
        }
        s.means[what] = v;
        return true;
    }

    public int priceOf(int what, int week) {
        return in(what, 0, 7) && in(week, 0, 399) ? s.price(what, week) : NONE;
    }

    public int mill(int looms, int speed, int coins, int least) {
        if (!in(looms, 0, 60) || !in(speed, 50, 200) || !in(coins, 0, 1000000) || !in(least, -1000, 1000)
                || s.mills.size() == 8) {
            return NONE;
        }
        Mill m = new Mill();
        m.looms = looms;
        m.speed = speed;
        m.coins = coins;
        m.least = least;
        s.mills.add(m);
        return s.mills.size() - 1;
    }

    public int shop(int coins, int trust, int rent) {
        if (!in(coins, 0, 100000) || !in(trust, 0, 400) || !in(rent, 0, 1000) || s.shops.size() == 4) {
            return NONE;
        }
        Shop shop = new Shop();
        shop.coins = coins;
        shop.trust = trust;
        shop.rent = rent;
        s.shops.add(shop);
        return s.shops.size() - 1;
    }

    public int home(int shop, int coins) {
        if (!in(shop, 0, s.shops.size() - 1) || !in(coins, 0, 10000) || s.homes.size() == 24) {
            return NONE;
        }
        Home h = new Home();
        h.shop = shop;
        h.coins = coins;
        for (int w = 0; w < s.clock; w++) {
            h.earned.add(0);
            h.hunger.add(0);
        }
        s.homes.add(h);
        return s.homes.size() - 1;
    }

    public int person(int home, int age, int skill) {
        if (!in(home, 0, s.homes.size() - 1) || !in(age, 5, 80) || !in(skill, 1, 10) || s.homes.get(home).gone
                || s.persons.size() == 60) {
            return NONE;
        }
        Person p = new Person();
        p.home = home;
        p.age = age;
        p.skill = skill;
        s.persons.add(p);
        return s.persons.size() - 1;
    }

    public boolean work(int person, int sort, int where, int n) {
        if (!in(person, 0, s.persons.size() - 1) || !in(sort, 0, 4)) {
            return false;
        }
        Person p = s.persons.get(person);
        if (s.homes.get(p.home).gone) {
            return false;
        }
        if (sort == 0) {
            s.end(person);
            return true;
        }
        int mill = where;
        if (sort == 2) {
            if (!in(where, 0, s.persons.size() - 1) || where == person || s.persons.get(where).sort != 1) {
                return false;
            }
            mill = s.persons.get(where).mill;
        }
        if (!in(mill, 0, s.mills.size() - 1) || s.mills.get(mill).closed) {
            return false;
        }
        if (!in(n, 1, sort == 1 ? 6 : sort == 2 ? 2 : 50) || sort == 4 && p.age >= 18) {
            return false;
        }
        if (sort <= 2) {
            int had = 0;
            for (Person other : s.persons) {
                had += other != p && s.weaves(other) && other.mill == mill ? other.n : 0;
            }
            if (had + n > s.mills.get(mill).looms) {
                return false;
            }
        }
        s.end(person);
        p.sort = sort;
        p.mill = mill;
        p.n = n;
        p.teacher = sort == 2 ? where : NONE;
        return true;
    }

    public int feed(int a, int b, int c, int d, int e) {
        if (tape.size() + 20 > 300) {
            return NONE;
        }
        for (int v : new int[] {a, b, c, d, e}) {
            tape.add(v >> 24 & 255);
            tape.add(v >> 16 & 255);
            tape.add(v >> 8 & 255);
            tape.add(v & 255);
        }
        return tape.size();
    }

    public int end(int n) {
        if (n < 0 || n > tape.size()) {
            return NONE;
        }
        tape.subList(n, tape.size()).clear();
        return n;
    }

    public int text() {
        if (s.texts.size() == 20) {
            return NONE;
        }
        Parser parser = new Parser(tape);
        tape.clear();
        try {
            s.texts.add(parser.text());
            fault = 0;
            place = NONE;
            return s.texts.size() - 1;
        } catch (Wrong wrong) {
            fault = wrong.what;
            place = wrong.place;
            return NONE;
        }
    }

    public int fault(int what) {
        return what == 0 ? fault : what == 1 ? place : NONE;
    }

    public int force(int text, int mill, int from, int to) {
        if (!in(text, 0, s.texts.size() - 1) || !in(mill, NONE, s.mills.size() - 1) || from < s.clock || to < from
                || to > 399 || s.forces.size() == 60) {
            return NONE;
        }
        s.forces.add(forceOf(text, mill, from, to));
        return s.forces.size() - 1;
    }

    private Force forceOf(int text, int mill, int from, int to) {
        Force f = new Force();
        f.text = text;
        f.mill = mill;
        f.from = from;
        f.to = to;
        f.told = s.clock;
        return f;
    }

    private boolean asks(int mill, int week, int known) {
        return in(mill, 0, s.mills.size() - 1) && in(week, 0, 399) && in(known, 0, 399);
    }

    public int pay(int kind, int mill, int week, int known) {
        return in(kind, 0, 5) && asks(mill, week, known) ? s.pay(kind, mill, week, known, new ArrayList<>()) : NONE;
    }

    public int why(int kind, int mill, int week, int known, int i) {
        if (!in(kind, 0, 5) || !asks(mill, week, known)) {
            return NONE;
        }
        List<Integer> counted = new ArrayList<>();
        s.pay(kind, mill, week, known, counted);
        return i == NONE ? s.force("price", mill, week, known) : in(i, 0, counted.size() - 1) ? counted.get(i) : NONE;
    }

    public int hours(int age, int mill, int week, int known) {
        return in(age, 0, 99) && asks(mill, week, known) ? s.hours(age, mill, week, known) : NONE;
    }

    public int order(int kind, int pieces, int price, int from, int to) {
        if (!in(kind, 0, 5) || !in(pieces, 1, 500) || !in(price, 1, 10000) || from < s.clock || to < from || to > 399
                || s.orders.size() == 80) {
            return NONE;
        }
        Order o = new Order();
        o.kind = kind;
        o.left = pieces;
        o.price = price;
        o.from = from;
        o.to = to;
        s.orders.add(o);
        return s.orders.size() - 1;
    }

    public boolean terms(int rail, int dear) {
        if (!in(rail, 0, 1000) || !in(dear, 1, 100000)) {
            return false;
        }
        s.rail = rail;
        s.dear = dear;
        return true;
    }

    public boolean fund(int more, int levy, int relief) {
        if (!in(more, 0, 100000) || !in(levy, 0, 50) || !in(relief, 0, 500)) {
            return false;
        }
        s.fund += more;
        s.levy = levy;
        s.relief = relief;
        return true;
    }

    public boolean strike(int mill, boolean on) {
        if (!in(mill, 0, s.mills.size() - 1) || s.mills.get(mill).closed || s.mills.get(mill).struck == on) {
            return false;
        }
        s.mills.get(mill).struck = on;
        return true;
    }

    public int weeks(int n) {
        if (!in(n, 1, 52) || s.clock + n > 400) {
            return NONE;
        }
        for (int i = 0; i < n; i++) {
            s.week();
        }
        return s.clock;
    }

    static int pick(int what, long... facts) {
        return what < 0 || what >= facts.length ? NONE : Math.toIntExact(facts[what]);
    }

    public int millOf(int mill, int what) {
        if (!in(mill, 0, s.mills.size() - 1)) {
            return NONE;
        }
        Mill m = s.mills.get(mill);
        int had = s.persons.stream().filter(p -> s.weaves(p) && p.mill == mill).mapToInt(p -> p.n).sum();
        return pick(what, m.looms, had, m.coins, m.yarn, m.closed ? 1 : 0, m.struck ? 1 : 0, m.kind, m.run, m.order,
                m.made);
    }

    public int homeOf(int home, int what) {
        if (!in(home, 0, s.homes.size() - 1)) {
            return NONE;
        }
        Home h = s.homes.get(home);
        long persons = s.persons.stream().filter(p -> p.home == home).count();
        return pick(what, h.coins, h.debt, h.gone ? 1 : 0, s.need(home), persons,
                s.clock == 0 ? 0 : h.earned.get(s.clock - 1), s.clock == 0 ? 0 : h.hunger.get(s.clock - 1));
    }

    public int personOf(int person, int what) {
        if (!in(person, 0, s.persons.size() - 1)) {
            return NONE;
        }
        Person p = s.persons.get(person);
        return pick(what, p.home, p.age, p.skill, p.sort, p.mill, p.n, p.teacher, p.rest, p.wages);
    }

    public int shopOf(int shop, int what) {
        if (!in(shop, 0, s.shops.size() - 1)) {
            return NONE;
        }
        Shop one = s.shops.get(shop);
        long debts = s.homes.stream().filter(h -> h.shop == shop).mapToLong(h -> h.debt).sum();
        return pick(what, one.coins, debts, one.failed ? 1 : 0);
    }

    public int orderOf(int order, int what) {
        if (!in(order, 0, s.orders.size() - 1)) {
            return NONE;
        }
        Order o = s.orders.get(order);
        return pick(what, o.kind, o.left, o.price, o.from, o.to);
    }

    public int book(int home, int week, int what) {
        if (!in(home, 0, s.homes.size() - 1) || !in(week, 0, s.clock - 1)) {
            return NONE;
        }
        return pick(what, s.homes.get(home).earned.get(week), s.homes.get(home).hunger.get(week));
    }

    public int tried(int text, int mill, int n, int what) {
        if (!in(text, NONE, s.texts.size() - 1) || !in(mill, NONE, s.mills.size() - 1) || !in(n, 1, 30)
                || s.clock + n > 400) {
            return NONE;
        }
        State t = s.copy();
        t.allEarned = t.allHunger = t.allMade = t.allPaid = 0;
        if (text != NONE) {
            t.forces.add(forceOf(text, mill, s.clock, 399));
        }
        for (int i = 0; i < n; i++) {
            t.week();
        }
        return pick(what, t.allEarned, t.allHunger, t.allMade, t.allPaid, t.mills.stream().filter(m -> m.closed).count(),
                t.shops.stream().filter(x -> x.failed).count(), t.homes.stream().filter(h -> h.gone).count());
    }

    public boolean offer(int side, int v) {
        if (!in(side, 0, 1) || !in(v, 0, 1000)) {
            return false;
        }
        if (side == 0) {
            s.hands = v;
        } else {
            s.masters = v;
        }
        return true;
    }

    public int meet() {
        if (s.hands == NONE || s.masters == NONE || s.hands > s.masters) {
            return NONE;
        }
        int half = (s.hands + s.masters) / 2;
        s.hands = NONE;
        s.masters = NONE;
        return half;
    }

    public boolean wish(int kind, int v) {
        if (!in(kind, 0, 5) || !in(v, NONE, 10000)) {
            return false;
        }
        s.kinds[kind].wish = v;
        return true;
    }

    public int made(int base, int a, int b, int what) {
        if (!in(base, 0, 40) || !in(a, 0, 40) || !in(b, 0, 40)) {
            return NONE;
        }
        List<Kind> wished = new ArrayList<>();
        for (Kind k : s.kinds) {
            if (k.wish != NONE) {
                wished.add(k);
            }
        }
        if (wished.isEmpty()) {
            return NONE;
        }
        long[] best = null;
        int bestChange = 0;
        for (int x = 0; x <= 40; x++) {
            for (int y = 0; y <= 40; y++) {
                for (int z = 0; z <= 40; z++) {
                    long squares = 0;
                    for (Kind k : wished) {
                        long off = x + (y * k.picks + z * k.width) / 10 - k.wish;
                        squares += off * off;
                    }
                    int change = Math.abs(x - base) + Math.abs(y - a) + Math.abs(z - b);
                    if (best == null || squares < best[3] || squares == best[3] && change < bestChange) {
                        best = new long[] {x, y, z, squares};
                        bestChange = change;
                    }
                }
            }
        }
        return pick(what, best);
    }

    public boolean proof(int first, int second) {
        if (!in(first, 0, 5) || !in(second, 0, 5)) {
            return false;
        }
        Kind a = s.kinds[first], b = s.kinds[second];
        return a.wish != NONE && b.wish != NONE && a.picks >= b.picks && a.width >= b.width && a.wish < b.wish;
    }

    public int shared(int most, int what) {
        if (!in(most, 0, 100000) || !in(what, -2, s.mills.size() - 1) || s.clock == 400) {
            return NONE;
        }
        int mills = s.mills.size();
        int plans = 1;
        for (int m = 0; m < mills; m++) {
            plans *= 3;
        }
        long[][][] earns = new long[mills][3][24];
        int[] can = new int[mills];
        for (Person p : s.persons) {
            if (p.mill == NONE) {
                continue;
            }
            for (int run = 1; run <= 2; run++) {
                int hours = s.hours(p.age, p.mill, s.clock, s.clock) / (3 - run);
                int kind = s.mills.get(p.mill).kind;
                if (!s.weaves(p)) {
                    earns[p.mill][run][p.home] += hours * p.n;
                } else if (kind != NONE) {
                    long pieces = (p.rest + s.points(p, hours)) / s.cost(kind);
                    can[p.mill] += run == 2 ? pieces : 0;
                    long worth = pieces * s.pay(kind, p.mill, s.clock, s.clock, new ArrayList<>());
                    earns[p.mill][run][p.home] += p.sort == 2 ? worth / 3 : worth;
                    if (p.sort == 2) {
                        earns[p.mill][run][s.persons.get(p.teacher).home] += worth - worth / 3;
                    }
                }
            }
        }
        int bestHungry = 99, bestPieces = 0;
        int[] bestRuns = null;
        int loaf = s.price(1, s.clock);
        for (int plan = 0; plan < plans; plan++) {
            int[] runs = new int[mills];
            int rest = plan;
            int pieces = 0;
            boolean can0 = true;
            for (int m = mills - 1; m >= 0; m--) {
                runs[m] = 2 - rest % 3;
                rest /= 3;
                can0 &= runs[m] == 0 || !s.mills.get(m).closed;
                pieces += runs[m] == 2 ? can[m] : runs[m] == 1 ? can[m] / 2 : 0;
            }
            if (!can0 || pieces > most) {
                continue;
            }
            int hungry = 0;
            for (int h = 0; h < s.homes.size(); h++) {
                long earned = 0;
                for (int m = 0; m < mills; m++) {
                    earned += earns[m][runs[m]][h];
                }
                hungry += !s.homes.get(h).gone && earned < (long) s.need(h) * loaf ? 1 : 0;
            }
            if (hungry < bestHungry || hungry == bestHungry && pieces > bestPieces) {
                bestHungry = hungry;
                bestPieces = pieces;
                bestRuns = runs;
            }
        }
        return what == NONE ? bestHungry : what == -2 ? bestPieces : bestRuns[what];
    }

    public int loaf(int i, int what) {
        if (!in(i, 0, s.loaves.size() - 1)) {
            return NONE;
        }
        Loaf l = s.loaves.get(i);
        return pick(what, l.home, l.week, l.person, l.mill, l.order);
    }

    public boolean sheet(int week) {
        if (!in(week, 0, s.clock - 1)) {
            return false;
        }
        sheetWeek = week;
        sheet = new int[8][];
        for (int m = 0; m < 8; m++) {
            sheet[m] = s.sheets.get(week)[m].clone();
        }
        return true;
    }

    public int onSheet(int mill, int home) {
        return sheet != null && in(mill, 0, 7) && in(home, 0, 23) ? sheet[mill][home] : NONE;
    }

    public boolean alter(int mill, int home, int mask) {
        if (sheet == null || !in(mill, 0, 7) || !in(home, 0, 23) || mask == 0) {
            return false;
        }
        sheet[mill][home] ^= mask;
        return true;
    }

    public int check(int what) {
        if (sheet == null || sheetWeek >= s.clock) {
            return NONE;
        }
        int others = 0, mill = NONE, home = NONE;
        for (int m = 0; m < 8; m++) {
            for (int h = 0; h < 24; h++) {
                if (sheet[m][h] != s.sheets.get(sheetWeek)[m][h]) {
                    others++;
                    mill = m;
                    home = h;
                }
            }
        }
        return pick(what, Math.min(2, others), others == 1 ? mill : NONE, others == 1 ? home : NONE);
    }

    public int image() {
        image = s.copy();
        return s.clock;
    }

    public int back() {
        s = image.copy();
        return s.clock;
    }

    public int about(int what) {
        int texts = s.texts.size();
        return pick(what, s.clock, s.mills.size(), s.shops.size(), s.homes.size(), s.persons.size(), texts,
                s.forces.size(), s.orders.size(), s.fund, s.loaves.size(), tape.size(), s.levy, s.relief, s.rail, s.dear,
                texts == 0 ? NONE : s.texts.get(texts - 1).size());
    }
}
