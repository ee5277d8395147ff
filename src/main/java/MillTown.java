import java.util.Arrays;

/** A mill town that goes week by week, as DOC.md tells it; the words in capitals are the document's. */
public final class MillTown {
    public static final int NONE = -1;

    // How many there can be of each.
    private static final int WEEKS = 400;
    private static final int KINDS = 6;
    private static final int GOODS = 8;
    private static final int MILLS = 8;
    private static final int SHOPS = 4;
    private static final int HOMES = 24;
    private static final int PERSONS = 60;
    private static final int TEXTS = 20;
    private static final int CLAUSES = 24;
    private static final int FORCES = 60;
    private static final int ORDERS = 80;
    private static final int TAPE = 300;

    // Where the columns of a table answer an ..Of call, they stand in the order of its WHATS.
    private static final int KIND_PICKS = 0;
    private static final int KIND_WIDTH = 1;
    private static final int KIND_YARN = 2;
    private static final int KIND_HARD = 3;
    private static final int KIND_EXTRAS = 4;
    private static final int KIND_WISH = 5;
    private static final int KIND_COLUMNS = 6;

    private static final int COTTON = 0;
    private static final int LOAF = 1;
    private static final int WIRE_MEAN = WEEKS;
    private static final int WIRE_COLUMNS = WEEKS + 1;
    private static final int UNTOLD = 0;

    private static final int MILL_LOOMS = 0;
    private static final int MILL_HAD = 1;
    private static final int MILL_COINS = 2;
    private static final int MILL_YARN = 3;
    private static final int MILL_CLOSED = 4;
    private static final int MILL_STRUCK = 5;
    private static final int MILL_KIND = 6;
    private static final int MILL_RUN = 7;
    private static final int MILL_ORDER = 8;
    private static final int MILL_MADE = 9;
    private static final int MILL_SPEED = 10;
    private static final int MILL_LEAST = 11;
    private static final int MILL_TOOK = 12;
    private static final int MILL_COLUMNS = 13;

    private static final int STOP = 0;
    private static final int HALF_TIME = 1;
    private static final int FULL = 2;

    private static final int SHOP_COINS = 0;
    private static final int SHOP_DEBTS = 1;
    private static final int SHOP_FAILED = 2;
    private static final int SHOP_TRUST = 3;
    private static final int SHOP_RENT = 4;
    private static final int SHOP_COLUMNS = 5;

    private static final int HOME_COINS = 0;
    private static final int HOME_DEBT = 1;
    private static final int HOME_GONE = 2;
    private static final int HOME_NEED = 3;
    private static final int HOME_PERSONS = 4;
    private static final int HOME_EARNED = 5;
    private static final int HOME_HUNGER = 6;
    private static final int HOME_SHOP = 7;
    private static final int HOME_COLUMNS = 8;

    private static final int PERSON_HOME = 0;
    private static final int PERSON_AGE = 1;
    private static final int PERSON_SKILL = 2;
    private static final int PERSON_SORT = 3;
    private static final int PERSON_MILL = 4;
    private static final int PERSON_N = 5;
    private static final int PERSON_TEACHER = 6;
    private static final int PERSON_REST = 7;
    private static final int PERSON_WAGES = 8;
    private static final int PERSON_COLUMNS = 9;

    private static final int IDLE = 0;
    private static final int PIECE = 1;
    private static final int LEARNER = 2;
    private static final int DAY = 3;
    private static final int HALF = 4;

    private static final int ORDER_KIND = 0;
    private static final int ORDER_LEFT = 1;
    private static final int ORDER_PRICE = 2;
    private static final int ORDER_FROM = 3;
    private static final int ORDER_TO = 4;
    private static final int ORDER_TAKEN = 5;
    private static final int ORDER_COLUMNS = 6;

    private static final int FORCE_TEXT = 0;
    private static final int FORCE_MILL = 1;
    private static final int FORCE_FROM = 2;
    private static final int FORCE_TO = 3;
    private static final int FORCE_TOLD = 4;
    private static final int FORCE_COLUMNS = 5;

    private static final int CLAUSE_SORT = 0;
    private static final int CLAUSE_NUMBER = 1;
    private static final int CLAUSE_TO = 2;
    private static final int CLAUSE_HOURS = 3;
    private static final int CLAUSE_STEP = 4;
    private static final int CLAUSE_ASK = 5;
    private static final int CLAUSE_SUM = 6;
    private static final int CLAUSE_END = 7;
    private static final int CLAUSE_COLUMNS = 8;

    // TOKENS. The words' numbers follow WORDS, so a word's place there tells its TOKEN.
    private static final String WORDS =
            "price extra when least age meals clean add take to hours or and not picks width yarn hard min max ";
    private static final int BAD = 0;
    private static final int END = 1;
    private static final int NUMBER = 2;
    private static final int WORD_PRICE = 3;
    private static final int WORD_EXTRA = 4;
    private static final int WORD_WHEN = 5;
    private static final int WORD_LEAST = 6;
    private static final int WORD_AGE = 7;
    private static final int WORD_MEALS = 8;
    private static final int WORD_CLEAN = 9;
    private static final int WORD_ADD = 10;
    private static final int WORD_TAKE = 11;
    private static final int WORD_TO = 12;
    private static final int WORD_HOURS = 13;
    private static final int WORD_OR = 14;
    private static final int WORD_AND = 15;
    private static final int WORD_NOT = 16;
    private static final int WORD_PICKS = 17;
    private static final int WORD_HARD = 20;
    private static final int WORD_MIN = 21;
    private static final int WORD_MAX = 22;
    private static final int LESS = 23;
    private static final int NOT_ABOVE = 24;
    private static final int MORE = 25;
    private static final int NOT_BELOW = 26;
    private static final int SAME = 27;
    private static final int UNLIKE = 28;
    private static final int PLUS = 29;
    private static final int MINUS = 30;
    private static final int TIMES = 31;
    private static final int OVER = 32;
    private static final int OPEN = 33;
    private static final int CLOSE = 34;
    private static final int COMMA = 35;
    private static final int SEMICOLON = 36;
    // No TOKEN of its own: how a MINUS of one ONE is kept in a TEXT's steps.
    private static final int NEGATE = 37;

    private static final int GREATEST_NUMBER = 9999;
    // A step of a TEXT is its TOKEN times this, and the NUMBER.
    private static final int STEP = 10000;
    private static final int DEEPEST = 8;

    private static final int FAULT_PLACE = 1;
    private static final int FAULT_NUMBER = 2;
    private static final int FAULT_DEEP = 3;
    private static final int FAULT_MANY = 4;

    private static final int MOST_PAY = 100000;
    private static final int USUAL_HOURS = 60;
    private static final int BALE = 360;
    private static final int LIST_TOP = 40;

    private final Town town = new Town();
    private final Town kept = new Town();
    private final Town trial = new Town();
    private final Week goer = new Week();
    private final Law law = goer.law;
    private final Books books = goer.books;
    private final Reader reader = new Reader();
    private final Sharing sharing = new Sharing();
    private final ListMaker lists = new ListMaker();
    private final Sheet paper = new Sheet();
    private final int[] tape = new int[TAPE];
    private int fed;

    public MillTown() {
    }

    private static boolean within(int v, int least, int most) {
        return v >= least && v <= most;
    }

    private static boolean isWeek(int week) {
        return week >= 0 && week < WEEKS;
    }

    private boolean isPlace(int mill) {
        return mill == NONE || town.mills.has(mill);
    }

    private boolean isText(int text) {
        return text >= 0 && text < town.texts;
    }

    public boolean kind(int k, int picks, int width, int yarn, int hard, int extras) {
        boolean fits = within(k, 0, KINDS - 1) && within(picks, 10, 200) && within(width, 20, 60)
                && within(yarn, 1, 50) && within(hard, 0, 9) && within(extras, 0, (1 << 30) - 1);
        if (!fits || town.isOrdered(k)) {
            return false;
        }
        town.tellKind(k, picks, width, yarn, hard, extras);
        return true;
    }

    public boolean price(int what, int week, int v) {
        if (!within(what, 0, GOODS - 1) || !isWeek(week) || v != NONE && !within(v, 1, 100000)) {
            return false;
        }
        town.wire.put(what, week, v);
        return true;
    }

    public boolean mean(int what, int v) {
        if (!within(what, 0, GOODS - 1) || !within(v, 1, 100000)) {
            return false;
        }
        town.wire.put(what, WIRE_MEAN, v);
        return true;
    }

    public int priceOf(int what, int week) {
        if (!within(what, 0, GOODS - 1) || !isWeek(week)) {
            return NONE;
        }
        return town.priceIn(what, week);
    }

    public int mill(int looms, int speed, int coins, int least) {
        boolean fits = within(looms, 0, 60) && within(speed, 50, 200) && within(coins, 0, 1000000)
                && within(least, -1000, 1000);
        return fits ? town.addMill(looms, speed, coins, least) : NONE;
    }

    public int shop(int coins, int trust, int rent) {
        boolean fits = within(coins, 0, 100000) && within(trust, 0, 400) && within(rent, 0, 1000);
        return fits ? town.addShop(coins, trust, rent) : NONE;
    }

    public int home(int shop, int coins) {
        boolean fits = town.shops.has(shop) && within(coins, 0, 10000);
        return fits ? town.addHome(shop, coins) : NONE;
    }

    public int person(int home, int age, int skill) {
        boolean fits = town.homes.has(home) && town.homes.at(home, HOME_GONE) == 0
                && within(age, 5, 80) && within(skill, 1, 10);
        return fits ? town.addPerson(home, age, skill) : NONE;
    }

    public boolean work(int person, int sort, int where, int n) {
        if (!town.persons.has(person) || !within(sort, IDLE, HALF)
                || town.homes.at(town.persons.at(person, PERSON_HOME), HOME_GONE) != 0) {
            return false;
        }
        if (sort == IDLE) {
            town.endWork(person);
            return true;
        }
        int mill = sort == LEARNER ? town.millOfTeacher(person, where) : where;
        if (!isOpenMill(mill) || !fitsWork(person, sort, mill, n)) {
            return false;
        }
        town.endWork(person);
        town.startWork(person, sort, mill, n, sort == LEARNER ? where : NONE);
        return true;
    }

    private boolean isOpenMill(int mill) {
        return town.mills.has(mill) && town.mills.at(mill, MILL_CLOSED) == 0;
    }

    private boolean fitsWork(int person, int sort, int mill, int n) {
        if (sort == PIECE || sort == LEARNER) {
            int had = town.loomsHad(mill) - town.loomsOf(person, mill);
            return within(n, 1, sort == PIECE ? 6 : 2) && had + n <= town.mills.at(mill, MILL_LOOMS);
        }
        return within(n, 1, 50) && (sort == DAY || town.persons.at(person, PERSON_AGE) < 18);
    }

    public int feed(int a, int b, int c, int d, int e) {
        if (fed + 20 > TAPE) {
            return NONE;
        }
        feedFour(a);
        feedFour(b);
        feedFour(c);
        feedFour(d);
        feedFour(e);
        return fed;
    }

    private void feedFour(int four) {
        for (int shift = 24; shift >= 0 && fed < TAPE; shift -= 8) {
            tape[fed] = four >>> shift & 255;
            fed++;
        }
    }

    public int end(int n) {
        if (n < 0 || n > fed) {
            return NONE;
        }
        fed = n;
        return n;
    }

    public int text() {
        Text text = law.freeText(town.texts);
        if (text == null) {
            return NONE;
        }
        boolean right = reader.read(tape, fed, text);
        fed = 0;
        if (!right) {
            return NONE;
        }
        town.texts++;
        return town.texts - 1;
    }

    public int fault(int what) {
        if (what == 0) {
            return reader.latestFault();
        }
        return what == 1 ? reader.latestPlace() : NONE;
    }

    public int force(int text, int mill, int from, int to) {
        boolean fits = isText(text) && isPlace(mill) && from >= town.clock && to >= from && to < WEEKS;
        if (!fits || town.forces.count >= FORCES) {
            return NONE;
        }
        return town.addForce(text, mill, from, to);
    }

    private boolean isAsked(int mill, int week, int known) {
        return town.mills.has(mill) && isWeek(week) && isWeek(known);
    }

    public int pay(int kind, int mill, int week, int known) {
        if (!within(kind, 0, KINDS - 1) || !isAsked(mill, week, known)) {
            return NONE;
        }
        return law.payAt(town, kind, mill, week, known);
    }

    public int why(int kind, int mill, int week, int known, int i) {
        if (!within(kind, 0, KINDS - 1) || !isAsked(mill, week, known)) {
            return NONE;
        }
        law.payAt(town, kind, mill, week, known);
        return i == NONE ? law.forceOfPay() : law.countedClause(i);
    }

    public int hours(int age, int mill, int week, int known) {
        if (!within(age, 0, 99) || !isAsked(mill, week, known)) {
            return NONE;
        }
        return law.hoursAt(town, age, mill, week, known);
    }

    public int order(int kind, int pieces, int price, int from, int to) {
        boolean fits = within(kind, 0, KINDS - 1) && within(pieces, 1, 500) && within(price, 1, 10000)
                && from >= town.clock && to >= from && to < WEEKS;
        return fits ? town.addOrder(kind, pieces, price, from, to) : NONE;
    }

    public boolean terms(int rail, int dear) {
        if (!within(rail, 0, 1000) || !within(dear, 1, 100000)) {
            return false;
        }
        town.rail = rail;
        town.dear = dear;
        return true;
    }

    public boolean fund(int more, int levy, int relief) {
        if (!within(more, 0, 100000) || !within(levy, 0, 50) || !within(relief, 0, 500)) {
            return false;
        }
        town.fund += more;
        town.levy = levy;
        town.relief = relief;
        return true;
    }

    public boolean strike(int mill, boolean on) {
        int struck = on ? 1 : 0;
        if (!isOpenMill(mill) || town.mills.at(mill, MILL_STRUCK) == struck) {
            return false;
        }
        town.mills.put(mill, MILL_STRUCK, struck);
        return true;
    }

    public int weeks(int n) {
        if (!within(n, 1, 52) || town.clock + n > WEEKS) {
            return NONE;
        }
        for (int i = 0; i < n; i++) {
            goer.pass(town);
        }
        return town.clock;
    }

    public int millOf(int mill, int what) {
        if (!town.mills.has(mill) || !within(what, MILL_LOOMS, MILL_MADE)) {
            return NONE;
        }
        return what == MILL_HAD ? town.loomsHad(mill) : town.mills.at(mill, what);
    }

    public int homeOf(int home, int what) {
        return within(what, HOME_COINS, HOME_HUNGER) ? town.homes.at(home, what) : NONE;
    }

    public int personOf(int person, int what) {
        return within(what, PERSON_HOME, PERSON_WAGES) ? town.persons.at(person, what) : NONE;
    }

    public int shopOf(int shop, int what) {
        return within(what, SHOP_COINS, SHOP_FAILED) ? town.shops.at(shop, what) : NONE;
    }

    public int orderOf(int order, int what) {
        return within(what, ORDER_KIND, ORDER_TO) ? town.orders.at(order, what) : NONE;
    }

    private boolean isOver(int week) {
        return week >= 0 && week < town.clock;
    }

    public int book(int home, int week, int what) {
        if (!town.homes.has(home) || !isOver(week)) {
            return NONE;
        }
        if (what == 0) {
            return books.earnedIn(week, home);
        }
        return what == 1 ? books.hungerIn(week, home) : NONE;
    }

    public int tried(int text, int mill, int n, int what) {
        boolean fits = (text == NONE || isText(text)) && isPlace(mill) && within(n, 1, 30) && within(what, 0, 6);
        if (!fits || town.clock + n > WEEKS) {
            return NONE;
        }
        trial.copyFrom(town);
        if (text != NONE) {
            trial.addForce(text, mill, town.clock, WEEKS - 1);
        }
        goer.clearTotals();
        for (int i = 0; i < n; i++) {
            goer.pass(trial);
        }
        return triedFact(what);
    }

    private int triedFact(int what) {
        switch (what) {
            case 0:
                return goer.earned;
            case 1:
                return goer.hunger;
            case 2:
                return goer.made;
            case 3:
                return goer.paid;
            case 4:
                return trial.mills.total(MILL_CLOSED);
            case 5:
                return trial.shops.total(SHOP_FAILED);
            default:
                return trial.homes.total(HOME_GONE);
        }
    }

    public boolean offer(int side, int v) {
        if (!within(side, 0, 1) || !within(v, 0, 1000)) {
            return false;
        }
        if (side == 0) {
            town.hands = v;
        } else {
            town.masters = v;
        }
        return true;
    }

    public int meet() {
        if (town.hands == NONE || town.masters == NONE || town.hands > town.masters) {
            return NONE;
        }
        int half = (town.hands + town.masters) / 2;
        town.hands = NONE;
        town.masters = NONE;
        return half;
    }

    public boolean wish(int kind, int v) {
        if (!within(kind, 0, KINDS - 1) || v != NONE && !within(v, 0, 10000)) {
            return false;
        }
        town.kinds.put(kind, KIND_WISH, v);
        return true;
    }

    public int made(int base, int a, int b, int what) {
        boolean fits = within(base, 0, LIST_TOP) && within(a, 0, LIST_TOP) && within(b, 0, LIST_TOP)
                && within(what, 0, 3);
        if (!fits || !lists.make(town.kinds, base, a, b)) {
            return NONE;
        }
        return lists.fact(what);
    }

    public boolean proof(int first, int second) {
        int lower = town.kinds.at(first, KIND_WISH);
        int higher = town.kinds.at(second, KIND_WISH);
        return lower != NONE && higher != NONE && lower < higher
                && town.kinds.at(first, KIND_PICKS) >= town.kinds.at(second, KIND_PICKS)
                && town.kinds.at(first, KIND_WIDTH) >= town.kinds.at(second, KIND_WIDTH);
    }

    public int shared(int most, int what) {
        boolean asks = what == NONE || what == -2 || town.mills.has(what);
        if (!within(most, 0, 100000) || !asks || !isWeek(town.clock)) {
            return NONE;
        }
        sharing.plan(town, law, most);
        if (what == NONE) {
            return sharing.bestHungry;
        }
        return what == -2 ? sharing.bestPieces : sharing.bestRun(what);
    }

    public int loaf(int i, int what) {
        if (i < 0 || i >= town.loaves || !within(what, 0, 4)) {
            return NONE;
        }
        return books.loafFact(town, i, what);
    }

    public boolean sheet(int week) {
        if (!isOver(week)) {
            return false;
        }
        paper.take(books, town, week);
        return true;
    }

    public int onSheet(int mill, int home) {
        return paper.isTaken() ? paper.at(mill, home) : NONE;
    }

    public boolean alter(int mill, int home, int mask) {
        return paper.isTaken() && mask != 0 && paper.change(mill, home, mask);
    }

    public int check(int what) {
        if (!within(what, 0, 2) || !paper.isTaken() || !isOver(paper.week)) {
            return NONE;
        }
        return paper.compare(books, town, what);
    }

    public int image() {
        kept.copyFrom(town);
        return town.clock;
    }

    public int back() {
        town.copyFrom(kept);
        return town.clock;
    }

    public int about(int what) {
        switch (what) {
            case 0:
                return town.clock;
            case 1:
                return town.mills.count;
            case 2:
                return town.shops.count;
            case 3:
                return town.homes.count;
            case 4:
                return town.persons.count;
            case 5:
                return town.texts;
            case 6:
                return town.forces.count;
            case 7:
                return town.orders.count;
            case 8:
                return town.fund;
            case 9:
                return town.loaves;
            case 10:
                return fed;
            case 11:
                return town.levy;
            case 12:
                return town.relief;
            case 13:
                return town.rail;
            case 14:
                return town.dear;
            case 15:
                return law.clausesOf(town.texts - 1);
            default:
                return NONE;
        }
    }

    /** A table of whole numbers that looks at each row and column itself, so that no caller can reach beside it. */
    private static final class Rows {
        private final int width;
        private final int[] cells;
        int count;

        Rows(int most, int columns) {
            width = columns;
            cells = new int[most * columns];
        }

        boolean has(int row) {
            return row >= 0 && row < count;
        }

        /** A row of zeros behind the others: its number, or NONE if the table is full. */
        int add() {
            int from = count * width;
            if (from + width > cells.length) {
                return NONE;
            }
            Arrays.fill(cells, from, from + width, 0);
            count++;
            return count - 1;
        }

        int at(int row, int column) {
            if (row < 0 || row >= count || column < 0 || column >= width) {
                return NONE;
            }
            return cells[row * width + column];
        }

        void put(int row, int column, int v) {
            if (row >= 0 && row < count && column >= 0 && column < width) {
                cells[row * width + column] = v;
            }
        }

        void raise(int row, int column, int more) {
            if (row >= 0 && row < count && column >= 0 && column < width) {
                cells[row * width + column] += more;
            }
        }

        int total(int column) {
            int sum = 0;
            for (int row = 0; row < count; row++) {
                sum += at(row, column);
            }
            return sum;
        }

        void fillColumn(int column, int v) {
            for (int row = 0; row < count; row++) {
                put(row, column, v);
            }
        }

        void copyFrom(Rows other) {
            int used = Math.min(other.count * other.width, cells.length);
            System.arraycopy(other.cells, 0, cells, 0, used);
            count = other.count;
        }
    }

    /**
     * All that goes by WEEKS and all that was told. TEXTS and books are only counted here: those that an IMAGE
     * counts are never written again, since what comes later always stands behind them.
     */
    private static final class Town {
        final Rows kinds = new Rows(KINDS, KIND_COLUMNS);
        final Rows wire = new Rows(GOODS, WIRE_COLUMNS);
        final Rows mills = new Rows(MILLS, MILL_COLUMNS);
        final Rows shops = new Rows(SHOPS, SHOP_COLUMNS);
        final Rows homes = new Rows(HOMES, HOME_COLUMNS);
        final Rows persons = new Rows(PERSONS, PERSON_COLUMNS);
        final Rows orders = new Rows(ORDERS, ORDER_COLUMNS);
        // One more than there can be, for the TEXT that is TRIED.
        final Rows forces = new Rows(FORCES + 1, FORCE_COLUMNS);
        int clock;
        int texts;
        int loaves;
        int rail;
        int dear = 100000;
        int fund;
        int levy;
        int relief;
        int hands = NONE;
        int masters = NONE;

        Town() {
            for (int k = 0; k < KINDS; k++) {
                kinds.add();
                tellKind(k, 60, 30, 10, 0, 0);
                kinds.put(k, KIND_WISH, NONE);
            }
            for (int what = 0; what < GOODS; what++) {
                wire.add();
                wire.put(what, WIRE_MEAN, 60);
            }
            wire.put(COTTON, WIRE_MEAN, 1000);
            wire.put(LOAF, WIRE_MEAN, 6);
        }

        void copyFrom(Town other) {
            kinds.copyFrom(other.kinds);
            wire.copyFrom(other.wire);
            mills.copyFrom(other.mills);
            shops.copyFrom(other.shops);
            homes.copyFrom(other.homes);
            persons.copyFrom(other.persons);
            orders.copyFrom(other.orders);
            forces.copyFrom(other.forces);
            clock = other.clock;
            texts = other.texts;
            loaves = other.loaves;
            rail = other.rail;
            dear = other.dear;
            fund = other.fund;
            levy = other.levy;
            relief = other.relief;
            hands = other.hands;
            masters = other.masters;
        }

        void tellKind(int k, int picks, int width, int yarn, int hard, int extras) {
            kinds.put(k, KIND_PICKS, picks);
            kinds.put(k, KIND_WIDTH, width);
            kinds.put(k, KIND_YARN, yarn);
            kinds.put(k, KIND_HARD, hard);
            kinds.put(k, KIND_EXTRAS, extras);
        }

        boolean isOrdered(int kind) {
            boolean ordered = false;
            for (int o = 0; o < orders.count; o++) {
                ordered = ordered || orders.at(o, ORDER_KIND) == kind;
            }
            return ordered;
        }

        int priceIn(int what, int week) {
            for (int w = week; w >= 0; w--) {
                int told = wire.at(what, w);
                if (told == UNTOLD) {
                    break;
                }
                if (told != NONE) {
                    return told;
                }
            }
            return wire.at(what, WIRE_MEAN);
        }

        int addMill(int looms, int speed, int coins, int least) {
            int mill = mills.add();
            mills.put(mill, MILL_LOOMS, looms);
            mills.put(mill, MILL_SPEED, speed);
            mills.put(mill, MILL_COINS, coins);
            mills.put(mill, MILL_LEAST, least);
            mills.put(mill, MILL_KIND, NONE);
            mills.put(mill, MILL_ORDER, NONE);
            return mill;
        }

        int addShop(int coins, int trust, int rent) {
            int shop = shops.add();
            shops.put(shop, SHOP_COINS, coins);
            shops.put(shop, SHOP_TRUST, trust);
            shops.put(shop, SHOP_RENT, rent);
            return shop;
        }

        int addHome(int shop, int coins) {
            int home = homes.add();
            homes.put(home, HOME_SHOP, shop);
            homes.put(home, HOME_COINS, coins);
            return home;
        }

        int addPerson(int home, int age, int skill) {
            int person = persons.add();
            if (person == NONE) {
                return NONE;
            }
            persons.put(person, PERSON_HOME, home);
            persons.put(person, PERSON_AGE, age);
            persons.put(person, PERSON_SKILL, skill);
            clearWork(person);
            homes.raise(home, HOME_PERSONS, 1);
            homes.raise(home, HOME_NEED, age >= 13 ? 4 : 2);
            return person;
        }

        int addForce(int text, int mill, int from, int to) {
            int force = forces.add();
            forces.put(force, FORCE_TEXT, text);
            forces.put(force, FORCE_MILL, mill);
            forces.put(force, FORCE_FROM, from);
            forces.put(force, FORCE_TO, to);
            forces.put(force, FORCE_TOLD, clock);
            return force;
        }

        int addOrder(int kind, int pieces, int price, int from, int to) {
            int order = orders.add();
            orders.put(order, ORDER_KIND, kind);
            orders.put(order, ORDER_LEFT, pieces);
            orders.put(order, ORDER_PRICE, price);
            orders.put(order, ORDER_FROM, from);
            orders.put(order, ORDER_TO, to);
            return order;
        }

        boolean isWeaver(int person) {
            int sort = persons.at(person, PERSON_SORT);
            return sort == PIECE || sort == LEARNER;
        }

        int loomsOf(int person, int mill) {
            boolean there = isWeaver(person) && persons.at(person, PERSON_MILL) == mill;
            return there ? persons.at(person, PERSON_N) : 0;
        }

        int loomsHad(int mill) {
            int had = 0;
            for (int p = 0; p < persons.count; p++) {
                had += loomsOf(p, mill);
            }
            return had;
        }

        /** The MILL where a LEARNER would be under that teacher, NONE if it can't teach that one. */
        int millOfTeacher(int person, int teacher) {
            boolean teaches = persons.has(teacher) && teacher != person && persons.at(teacher, PERSON_SORT) == PIECE;
            return teaches ? persons.at(teacher, PERSON_MILL) : NONE;
        }

        void startWork(int person, int sort, int mill, int n, int teacher) {
            persons.put(person, PERSON_SORT, sort);
            persons.put(person, PERSON_MILL, mill);
            persons.put(person, PERSON_N, n);
            persons.put(person, PERSON_TEACHER, teacher);
        }

        private void clearWork(int person) {
            startWork(person, IDLE, NONE, 0, NONE);
            persons.put(person, PERSON_REST, 0);
        }

        void endWork(int person) {
            if (persons.at(person, PERSON_SORT) == PIECE) {
                for (int p = 0; p < persons.count; p++) {
                    if (persons.at(p, PERSON_SORT) == LEARNER && persons.at(p, PERSON_TEACHER) == person) {
                        clearWork(p);
                    }
                }
            }
            clearWork(person);
        }

        int costOf(int kind) {
            return kinds.at(kind, KIND_PICKS) * kinds.at(kind, KIND_WIDTH) * (10 + kinds.at(kind, KIND_HARD));
        }

        int pointsOf(int person, int hours) {
            return persons.at(person, PERSON_N) * hours * mills.at(persons.at(person, PERSON_MILL), MILL_SPEED)
                    * persons.at(person, PERSON_SKILL);
        }

        /** The PIECES that a weaver's REST and POINTS come to, before anything else is asked. */
        int piecesOf(int person, int hours, int kind) {
            int cost = costOf(kind);
            return cost > 0 ? (persons.at(person, PERSON_REST) + pointsOf(person, hours)) / cost : 0;
        }
    }

    /** A TEXT that was read: its CLAUSES, and the steps of their SUMS and ASKS, each behind what it works on. */
    private static final class Text {
        final Rows clauses = new Rows(CLAUSES, CLAUSE_COLUMNS);
        final int[] steps = new int[TAPE];
        int length;
        private int sorts;

        void clear() {
            clauses.count = 0;
            length = 0;
            sorts = 0;
        }

        int open(int sort) {
            int clause = clauses.add();
            clauses.put(clause, CLAUSE_SORT, sort);
            sorts |= 1 << sort;
            return clause;
        }

        boolean hasSort(int sort) {
            return (sorts >>> sort & 1) != 0;
        }

        void addStep(int step, int number) {
            if (length < steps.length) {
                steps[length] = step * STEP + number;
                length++;
            }
        }

        /** The greatest NUMBER of its CLAUSES of a sort, 0 without one. */
        int greatest(int sort) {
            int most = 0;
            for (int c = 0; c < clauses.count; c++) {
                if (clauses.at(c, CLAUSE_SORT) == sort) {
                    most = Math.max(most, clauses.at(c, CLAUSE_NUMBER));
                }
            }
            return most;
        }
    }

    /** Reads a tape into a TEXT, or finds its FAULT. Behind a FAULT nothing is taken any more. */
    private static final class Reader {
        private final int[] tokens = new int[TAPE + 1];
        private final int[] starts = new int[TAPE + 1];
        private final int[] numbers = new int[TAPE + 1];
        private int at;
        private int now;
        private int fault = NONE;
        private int place = NONE;

        int latestFault() {
            return fault;
        }

        int latestPlace() {
            return place;
        }

        boolean read(int[] tape, int length, Text text) {
            fault = 0;
            place = NONE;
            text.clear();
            cut(tape, Math.min(length, Math.min(tape.length, TAPE)));
            at = 0;
            now = tokens[0];
            for (int i = 0; i <= CLAUSES && fault == 0 && now != END; i++) {
                if (now < WORD_PRICE || now > WORD_CLEAN) {
                    fail(FAULT_PLACE);
                } else if (text.clauses.count >= CLAUSES) {
                    fail(FAULT_MANY);
                } else if (now <= WORD_WHEN) {
                    readCounted(text);
                } else {
                    readRule(text);
                }
            }
            return fault == 0;
        }

        private void cut(int[] tape, int length) {
            int count = 0;
            int from = 0;
            for (int i = 0; i < length && from < length; i++) {
                int to = tokenEnd(tape, length, from);
                if (tape[from] != ' ' && tape[from] != '\n') {
                    tokens[count] = tokenAt(tape, from, to);
                    starts[count] = from;
                    numbers[count] = numberAt(tape, from, to);
                    count++;
                }
                from = to;
            }
            tokens[count] = END;
            starts[count] = length;
        }

        private static boolean isDigit(int sign) {
            return sign >= '0' && sign <= '9';
        }

        private static boolean isLetter(int sign) {
            return sign >= 'a' && sign <= 'z' || sign >= 'A' && sign <= 'Z';
        }

        private static int tokenEnd(int[] tape, int length, int from) {
            int to = from + 1;
            int sign = tape[from];
            if (isLetter(sign) || isDigit(sign)) {
                while (to < length && (isLetter(sign) ? isLetter(tape[to]) : isDigit(tape[to]))) {
                    to++;
                }
            } else if ((sign == '<' || sign == '>') && to < length && tape[to] == '=') {
                to++;
            }
            return to;
        }

        private static int tokenAt(int[] tape, int from, int to) {
            int sign = tape[from];
            if (isDigit(sign)) {
                return NUMBER;
            }
            if (isLetter(sign)) {
                return wordAt(tape, from, to);
            }
            switch (sign) {
                case '<':
                    return to - from == 2 ? NOT_ABOVE : LESS;
                case '>':
                    return to - from == 2 ? NOT_BELOW : MORE;
                case '=':
                    return SAME;
                case '#':
                    return UNLIKE;
                case '+':
                    return PLUS;
                case '-':
                    return MINUS;
                case '*':
                    return TIMES;
                case '/':
                    return OVER;
                case '(':
                    return OPEN;
                case ')':
                    return CLOSE;
                case ',':
                    return COMMA;
                case ';':
                    return SEMICOLON;
                default:
                    return BAD;
            }
        }

        private static int wordAt(int[] tape, int from, int to) {
            int word = WORD_PRICE;
            int next = from;
            boolean same = true;
            for (int i = 0; i < WORDS.length(); i++) {
                char sign = WORDS.charAt(i);
                if (sign != ' ') {
                    same = same && next < to && tape[next] == sign;
                    next++;
                } else if (same && next == to) {
                    return word;
                } else {
                    word++;
                    next = from;
                    same = true;
                }
            }
            return BAD;
        }

        /** The NUMBER of digits; beyond the greatest it stays just above it, however many digits there are. */
        private static int numberAt(int[] tape, int from, int to) {
            int number = 0;
            for (int i = from; i < to && isDigit(tape[i]); i++) {
                number = Math.min(number * 10 + tape[i] - '0', GREATEST_NUMBER + 1);
            }
            return number;
        }

        private void fail(int what) {
            if (fault == 0 && at < starts.length) {
                fault = what;
                place = starts[at];
            }
        }

        /** Goes on behind a TOKEN, or finds that another one stands there. */
        private void expect(int token) {
            if (fault == 0 && now == token && at + 1 < tokens.length) {
                at++;
                now = tokens[at];
            } else if (fault == 0 && at < starts.length) {
                fault = FAULT_PLACE;
                place = starts[at];
            }
        }

        private int readNumber(int least, int most) {
            int number = at < numbers.length ? numbers[at] : 0;
            if (now == NUMBER && (number < least || number > most)) {
                fail(FAULT_NUMBER);
            }
            expect(NUMBER);
            return number;
        }

        /** A CLAUSE of NUMBERS alone. */
        private void readRule(Text text) {
            int sort = now;
            int clause = text.open(sort);
            expect(sort);
            if (sort == WORD_AGE) {
                int from = readNumber(0, 99);
                expect(WORD_TO);
                int to = readNumber(from, 99);
                expect(WORD_HOURS);
                text.clauses.put(clause, CLAUSE_NUMBER, from);
                text.clauses.put(clause, CLAUSE_TO, to);
                text.clauses.put(clause, CLAUSE_HOURS, readNumber(0, 80));
            } else {
                text.clauses.put(clause, CLAUSE_NUMBER, readNumber(0, sort == WORD_LEAST ? GREATEST_NUMBER : 20));
            }
            expect(SEMICOLON);
        }

        /** A CLAUSE with a SUM that counts in PAY. */
        private void readCounted(Text text) {
            int sort = now;
            int clause = text.open(sort);
            expect(sort);
            text.clauses.put(clause, CLAUSE_ASK, text.length);
            if (sort == WORD_EXTRA) {
                text.clauses.put(clause, CLAUSE_NUMBER, readNumber(0, 29));
            } else if (sort == WORD_WHEN) {
                readEither(text);
            }
            boolean takes = sort != WORD_PRICE && now == WORD_TAKE;
            text.clauses.put(clause, CLAUSE_STEP, takes ? MINUS : PLUS);
            if (sort != WORD_PRICE) {
                expect(takes ? WORD_TAKE : WORD_ADD);
            }
            text.clauses.put(clause, CLAUSE_SUM, text.length);
            readSum(text, 0);
            text.clauses.put(clause, CLAUSE_END, text.length);
            expect(SEMICOLON);
        }

        /** ASKS joined by and are worked before those joined by or, so an or waits for the end of its BOTH. */
        private void readEither(Text text) {
            boolean anded = false;
            boolean ored = false;
            for (int i = 0; i < tokens.length && fault == 0; i++) {
                readAsk(text);
                if (anded) {
                    text.addStep(WORD_AND, 0);
                }
                anded = now == WORD_AND;
                if (!anded && ored) {
                    text.addStep(WORD_OR, 0);
                }
                ored = anded ? ored : now == WORD_OR;
                if (!anded && !ored) {
                    return;
                }
                expect(now);
            }
        }

        private void readAsk(Text text) {
            int nots = 0;
            for (int i = 0; i <= DEEPEST && fault == 0 && now == WORD_NOT; i++) {
                if (nots == DEEPEST) {
                    fail(FAULT_DEEP);
                }
                expect(WORD_NOT);
                nots++;
            }
            readSum(text, nots);
            int asked = now;
            if (asked < LESS || asked > UNLIKE) {
                fail(FAULT_PLACE);
            }
            expect(asked);
            readSum(text, nots);
            text.addStep(asked, 0);
            for (int i = 0; i < nots; i++) {
                text.addStep(WORD_NOT, 0);
            }
        }

        /** A SUM around which so many of ( not - are open. */
        private void readSum(Text text, int open) {
            int joined = 0;
            for (int i = 0; i < tokens.length && fault == 0; i++) {
                readOne(text, open);
                for (int j = 0; j < tokens.length && fault == 0 && (now == TIMES || now == OVER); j++) {
                    int factor = now;
                    expect(factor);
                    readOne(text, open);
                    text.addStep(factor, 0);
                }
                if (joined != 0) {
                    text.addStep(joined, 0);
                }
                joined = now;
                if (joined != PLUS && joined != MINUS) {
                    return;
                }
                expect(joined);
            }
        }

        private void readOne(Text text, int open) {
            int token = now;
            boolean pair = token == WORD_MIN || token == WORD_MAX;
            if (token == NUMBER && at < numbers.length) {
                if (numbers[at] > GREATEST_NUMBER) {
                    fail(FAULT_NUMBER);
                }
                text.addStep(NUMBER, numbers[at] % STEP);
                expect(NUMBER);
                return;
            }
            if (token >= WORD_PICKS && token <= WORD_HARD) {
                text.addStep(token, 0);
                expect(token);
                return;
            }
            if (pair) {
                expect(token);
            }
            if (now != OPEN && (pair || now != MINUS)) {
                fail(FAULT_PLACE);
            } else if (open >= DEEPEST) {
                fail(FAULT_DEEP);
            } else if (now == MINUS) {
                expect(MINUS);
                readOne(text, open + 1);
                text.addStep(NEGATE, 0);
            } else {
                expect(OPEN);
                readSum(text, open + 1);
                if (pair) {
                    expect(COMMA);
                    readSum(text, open + 1);
                    text.addStep(token, 0);
                }
                expect(CLOSE);
            }
        }
    }

    /** What THE TEXTS say at a MILL in a WEEK. FRACTIONS stand in places; LOST is one with 0 below its line. */
    private static final class Law {
        private static final long MOST = 1000000000L;
        // Eight that are open hold three each at most, an EITHER three more.
        private static final int PLACES = 64;

        private final Text[] texts = new Text[TEXTS];
        private final long[] above = new long[PLACES];
        private final long[] below = new long[PLACES];
        // A set, by CLAUSES (bits): they count in another order than that in which why tells them.
        private int counted;
        private int payForce = NONE;

        /** The TEXT to read the next one into, null if there are as many as there can be. */
        Text freeText(int number) {
            if (number < 0 || number >= texts.length) {
                return null;
            }
            if (texts[number] == null) {
                texts[number] = new Text();
            }
            return texts[number];
        }

        private Text textAt(int number) {
            return number >= 0 && number < texts.length ? texts[number] : null;
        }

        int clausesOf(int number) {
            Text text = textAt(number);
            return text == null ? NONE : text.clauses.count;
        }

        /** The FORCE by which a sort of CLAUSES holds: the latest told stands last. */
        private int forceFor(Town town, int sort, int mill, int week, int known) {
            Rows forces = town.forces;
            for (int f = forces.count - 1; f >= 0; f--) {
                int where = forces.at(f, FORCE_MILL);
                Text text = textAt(forces.at(f, FORCE_TEXT));
                if ((where == NONE || where == mill) && forces.at(f, FORCE_TOLD) <= known
                        && forces.at(f, FORCE_FROM) <= week && week <= forces.at(f, FORCE_TO)
                        && text != null && text.hasSort(sort)) {
                    return f;
                }
            }
            return NONE;
        }

        /** THE TEXT for a sort of CLAUSES, null without one. */
        Text textFor(Town town, int sort, int mill, int week, int known) {
            return textAt(town.forces.at(forceFor(town, sort, mill, week, known), FORCE_TEXT));
        }

        int hoursAt(Town town, int age, int mill, int week, int known) {
            Text ages = textFor(town, WORD_AGE, mill, week, known);
            return hoursBy(ages, breaksAt(town, mill, week, known), age);
        }

        /** The hours that meals and cleaning take. */
        int breaksAt(Town town, int mill, int week, int known) {
            Text meals = textFor(town, WORD_MEALS, mill, week, known);
            Text clean = textFor(town, WORD_CLEAN, mill, week, known);
            int breaks = meals == null ? 0 : meals.greatest(WORD_MEALS);
            return clean == null ? breaks : breaks + clean.greatest(WORD_CLEAN);
        }

        static int hoursBy(Text ages, int breaks, int age) {
            if (ages == null) {
                return Math.max(USUAL_HOURS - breaks, 0);
            }
            Rows clauses = ages.clauses;
            for (int c = 0; c < clauses.count; c++) {
                if (clauses.at(c, CLAUSE_SORT) == WORD_AGE && clauses.at(c, CLAUSE_NUMBER) <= age
                        && age <= clauses.at(c, CLAUSE_TO)) {
                    return Math.max(clauses.at(c, CLAUSE_HOURS) - breaks, 0);
                }
            }
            return 0;
        }

        int forceOfPay() {
            return payForce;
        }

        /** The i-th of the TEXT's CLAUSES, as they stand there, that counted in the PAY worked last. */
        int countedClause(int i) {
            int ahead = 0;
            for (int c = 0; c < CLAUSES; c++) {
                if ((counted >>> c & 1) != 0) {
                    if (ahead == i) {
                        return c;
                    }
                    ahead++;
                }
            }
            return NONE;
        }

        int payAt(Town town, int kind, int mill, int week, int known) {
            counted = 0;
            payForce = forceFor(town, WORD_PRICE, mill, week, known);
            Text text = textAt(town.forces.at(payForce, FORCE_TEXT));
            if (text == null) {
                return 0;
            }
            above[0] = 0;
            below[0] = 1;
            count(text, town.kinds, kind, true);
            count(text, town.kinds, kind, false);
            if (below[0] == 0) {
                counted = 0;
                return 0;
            }
            long whole = Math.max(above[0] / below[0], text.greatest(WORD_LEAST));
            return (int) Math.min(whole, MOST_PAY);
        }

        /** Puts to the whole, in place 0, the SUMS of the price CLAUSES, or those of the others that count. */
        private void count(Text text, Rows kinds, int kind, boolean prices) {
            for (int c = 0; c < text.clauses.count; c++) {
                int sort = text.clauses.at(c, CLAUSE_SORT);
                int sum = text.clauses.at(c, CLAUSE_SUM);
                boolean counts = prices && sort == WORD_PRICE;
                if (!prices && sort == WORD_EXTRA) {
                    counts = (kinds.at(kind, KIND_EXTRAS) >>> text.clauses.at(c, CLAUSE_NUMBER) & 1) != 0;
                } else if (!prices && sort == WORD_WHEN) {
                    run(text, text.clauses.at(c, CLAUSE_ASK), sum, kinds, kind);
                    counts = above[1] != 0;
                }
                if (counts) {
                    run(text, sum, text.clauses.at(c, CLAUSE_END), kinds, kind);
                    join(text.clauses.at(c, CLAUSE_STEP), 0);
                    counted |= 1 << c;
                }
            }
        }

        /** Runs steps of a TEXT; what they come to is in place 1, an ASK's as 1 or 0. */
        private void run(Text text, int from, int to, Rows kinds, int kind) {
            int top = 0;
            for (int i = from; i >= 0 && i < to && i < text.length; i++) {
                int step = text.steps[i] / STEP;
                if (step == NUMBER || step >= WORD_PICKS && step <= WORD_HARD) {
                    if (top + 1 >= PLACES) {
                        return;
                    }
                    top++;
                    above[top] = step == NUMBER ? text.steps[i] % STEP : kinds.at(kind, KIND_PICKS + step - WORD_PICKS);
                    below[top] = 1;
                } else if (step == NEGATE) {
                    above[top] = -above[top];
                } else if (step == WORD_NOT) {
                    above[top] = 1 - above[top];
                } else if (top >= 2) {
                    top--;
                    join(step, top);
                }
            }
        }

        /** Joins what stands in a place with what stands in the next one. */
        private void join(int step, int at) {
            if (at < 0 || at + 1 >= PLACES) {
                return;
            }
            long left = above[at] * below[at + 1];
            long right = above[at + 1] * below[at];
            long under = below[at] * below[at + 1];
            boolean known = under != 0;
            switch (step) {
                case PLUS:
                    settle(at, left + right, under);
                    break;
                case MINUS:
                    settle(at, left - right, under);
                    break;
                case TIMES:
                    settle(at, above[at] * above[at + 1], under);
                    break;
                case OVER:
                    settle(at, left, known ? right : 0);
                    break;
                case WORD_MIN:
                    settle(at, Math.min(left, right), under);
                    break;
                case WORD_MAX:
                    settle(at, Math.max(left, right), under);
                    break;
                case WORD_AND:
                    settle(at, above[at] * above[at + 1], 1);
                    break;
                case WORD_OR:
                    settle(at, Math.max(above[at], above[at + 1]), 1);
                    break;
                default:
                    settle(at, known && isSo(step, left, right) ? 1 : 0, 1);
                    break;
            }
        }

        private static boolean isSo(int asked, long left, long right) {
            switch (asked) {
                case LESS:
                    return left < right;
                case NOT_ABOVE:
                    return left <= right;
                case MORE:
                    return left > right;
                case NOT_BELOW:
                    return left >= right;
                case SAME:
                    return left == right;
                default:
                    return left != right;
            }
        }

        /** Puts a FRACTION into a place, as small as it goes, or LOST. */
        private void settle(int at, long over, long under) {
            above[at] = 0;
            below[at] = 0;
            if (under == 0) {
                return;
            }
            long divisor = over;
            long rest = under;
            // Euclid's steps for longs are fewer than a hundred.
            for (int i = 0; i < 200 && rest != 0; i++) {
                long next = divisor % rest;
                divisor = rest;
                rest = next;
            }
            // A divisor with the sign of what is below leaves that above 0.
            if (divisor < 0 != under < 0) {
                divisor = -divisor;
            }
            if (divisor == 0) {
                return;
            }
            long small = over / divisor;
            long line = under / divisor;
            if (small <= MOST && small >= -MOST && line <= MOST) {
                above[at] = small;
                below[at] = line;
            }
        }
    }

    /** What the books keep of one WEEK that is over. */
    private static final class WeekBook {
        final int[] wages = new int[PERSONS];
        final int[] mills = new int[PERSONS];
        final int[] orders = new int[MILLS];
        final int[] earned = new int[HOMES];
        final int[] hunger = new int[HOMES];
        final int[] bought = new int[HOMES];
        final int[] trusted = new int[HOMES];
        int loaves;
        int loafPrice;

        void clear() {
            Arrays.fill(wages, 0);
            Arrays.fill(mills, NONE);
            Arrays.fill(orders, NONE);
            Arrays.fill(earned, 0);
            Arrays.fill(hunger, 0);
            Arrays.fill(bought, 0);
            Arrays.fill(trusted, 0);
            loaves = 0;
        }

        /** The PERSON in whose WAGES the coin of a HOME's i-th loaf lies. */
        int payerOf(Rows persons, int home, int i) {
            if (home < 0 || home >= HOMES || i >= bought[home]) {
                return NONE;
            }
            int coin = i * loafPrice;
            for (int p = 0; p < persons.count && p < PERSONS; p++) {
                if (persons.at(p, PERSON_HOME) == home) {
                    if (coin < wages[p]) {
                        return p;
                    }
                    coin -= wages[p];
                }
            }
            return NONE;
        }
    }

    /** The books of all WEEKS. A WEEK's is made when it is first gone by, and written anew each time that it is. */
    private static final class Books {
        private final WeekBook[] all = new WeekBook[WEEKS];

        WeekBook of(int week) {
            return week >= 0 && week < WEEKS ? all[week] : null;
        }

        /** An empty book for a WEEK, null if there is no such WEEK. */
        WeekBook open(int week) {
            if (week < 0 || week >= WEEKS) {
                return null;
            }
            if (all[week] == null) {
                all[week] = new WeekBook();
            }
            all[week].clear();
            return all[week];
        }

        int earnedIn(int week, int home) {
            WeekBook book = of(week);
            return book == null || home < 0 || home >= HOMES ? 0 : book.earned[home];
        }

        int hungerIn(int week, int home) {
            WeekBook book = of(week);
            return book == null || home < 0 || home >= HOMES ? 0 : book.hunger[home];
        }

        int loafFact(Town town, int i, int what) {
            int ahead = 0;
            for (int week = 0; week < town.clock; week++) {
                WeekBook book = of(week);
                int loaves = book == null ? 0 : book.loaves;
                if (book != null && i - ahead < loaves) {
                    return what == 1 ? week : factIn(book, town.persons, i - ahead, what);
                }
                ahead += loaves;
            }
            return NONE;
        }

        private static int factIn(WeekBook book, Rows persons, int i, int what) {
            int home = 0;
            int place = i;
            for (; home < HOMES - 1 && place >= book.bought[home] + book.trusted[home]; home++) {
                place -= book.bought[home] + book.trusted[home];
            }
            if (what == 0) {
                return home;
            }
            int person = book.payerOf(persons, home, place);
            if (what == 2 || person < 0 || person >= PERSONS) {
                return person;
            }
            int mill = book.mills[person];
            if (what == 3 || mill < 0 || mill >= MILLS) {
                return mill;
            }
            return book.orders[mill];
        }

        /** Writes the WAGES of a WEEK by MILL and HOME. */
        void sumWages(Town town, int week, int[] places) {
            Arrays.fill(places, 0);
            WeekBook book = of(week);
            for (int p = 0; book != null && p < town.persons.count && p < PERSONS; p++) {
                int place = Sheet.placeOf(book.mills[p], town.persons.at(p, PERSON_HOME));
                if (place >= 0 && place < places.length) {
                    places[place] += book.wages[p];
                }
            }
        }
    }

    /** Lets a WEEK go by. */
    private static final class Week {
        final Law law = new Law();
        final Books books = new Books();
        private final int[] fullHours = new int[PERSONS];
        private final int[] wages = new int[PERSONS];
        private final int[] pays = new int[MILLS * KINDS];
        private int cotton;
        int earned;
        int hunger;
        int made;
        int paid;

        void clearTotals() {
            earned = 0;
            hunger = 0;
            made = 0;
            paid = 0;
        }

        void pass(Town town) {
            WeekBook book = books.open(town.clock);
            if (book == null) {
                return;
            }
            begin(town);
            fillPays(town);
            fillHours(town);
            takeOrders(town);
            runMills(town);
            settleMills(town);
            levyAndRelieve(town);
            writeWages(town, book);
            keepHomes(town, book);
            payRents(town);
            leave(town, book);
            town.clock++;
        }

        private void begin(Town town) {
            cotton = town.priceIn(COTTON, town.clock);
            Arrays.fill(fullHours, 0);
            Arrays.fill(wages, 0);
            Arrays.fill(pays, NONE);
            town.orders.fillColumn(ORDER_TAKEN, 0);
            town.mills.fillColumn(MILL_RUN, STOP);
            town.mills.fillColumn(MILL_ORDER, NONE);
            town.mills.fillColumn(MILL_MADE, 0);
            town.mills.fillColumn(MILL_TOOK, 0);
        }

        private static boolean canRun(Town town, int mill) {
            return town.mills.at(mill, MILL_CLOSED) == 0 && town.mills.at(mill, MILL_STRUCK) == 0;
        }

        private static boolean isOpenOrder(Town town, int order) {
            Rows orders = town.orders;
            return orders.at(order, ORDER_FROM) <= town.clock && town.clock <= orders.at(order, ORDER_TO)
                    && orders.at(order, ORDER_LEFT) > orders.at(order, ORDER_TAKEN);
        }

        /** PAY is worked once for each MILL and KIND that can come up in this WEEK, however many ORDERS ask it. */
        private void fillPays(Town town) {
            for (int order = 0; order < town.orders.count; order++) {
                int kind = town.orders.at(order, ORDER_KIND);
                for (int mill = 0; isOpenOrder(town, order) && mill < town.mills.count; mill++) {
                    int place = mill * KINDS + kind;
                    if (place >= 0 && place < pays.length && pays[place] == NONE && canRun(town, mill)) {
                        pays[place] = law.payAt(town, kind, mill, town.clock, town.clock);
                    }
                }
            }
        }

        private int payFor(int mill, int kind) {
            int place = mill * KINDS + kind;
            return place >= 0 && place < pays.length ? pays[place] : 0;
        }

        /** THE TEXTS for HOURS are looked for once a MILL, not once a PERSON. */
        private void fillHours(Town town) {
            for (int mill = 0; mill < town.mills.count; mill++) {
                Text ages = law.textFor(town, WORD_AGE, mill, town.clock, town.clock);
                int breaks = law.breaksAt(town, mill, town.clock, town.clock);
                for (int p = 0; p < town.persons.count && p < PERSONS; p++) {
                    if (town.persons.at(p, PERSON_MILL) == mill) {
                        fullHours[p] = Law.hoursBy(ages, breaks, town.persons.at(p, PERSON_AGE));
                    }
                }
            }
        }

        private void takeOrders(Town town) {
            for (int mill = 0; mill < town.mills.count; mill++) {
                int order = canRun(town, mill) ? bestOrder(town, mill) : NONE;
                if (order != NONE) {
                    take(town, mill, order);
                }
            }
        }

        private int gainOf(Town town, int mill, int order) {
            int kind = town.orders.at(order, ORDER_KIND);
            return town.orders.at(order, ORDER_PRICE) - town.rail - payFor(mill, kind)
                    - town.kinds.at(kind, KIND_YARN) * cotton / 400;
        }

        private int bestOrder(Town town, int mill) {
            int best = NONE;
            int bestGain = 0;
            for (int order = 0; order < town.orders.count; order++) {
                if (isOpenOrder(town, order)) {
                    int gain = gainOf(town, mill, order);
                    boolean sooner = town.orders.at(order, ORDER_TO) < town.orders.at(best, ORDER_TO);
                    if (gain >= town.mills.at(mill, MILL_LEAST)
                            && (best == NONE || gain > bestGain || gain == bestGain && sooner)) {
                        best = order;
                        bestGain = gain;
                    }
                }
            }
            return best;
        }

        private void take(Town town, int mill, int order) {
            int kind = town.orders.at(order, ORDER_KIND);
            if (town.mills.at(mill, MILL_KIND) != kind) {
                town.mills.put(mill, MILL_KIND, kind);
                clearRests(town, mill);
            }
            int can = canMake(town, mill, kind);
            if (can <= 0) {
                return;
            }
            int left = town.orders.at(order, ORDER_LEFT) - town.orders.at(order, ORDER_TAKEN);
            int takes = Math.min(can, left);
            boolean full = 2 * takes >= can && cotton <= town.dear;
            town.orders.raise(order, ORDER_TAKEN, takes);
            town.mills.put(mill, MILL_TOOK, takes);
            town.mills.put(mill, MILL_ORDER, order);
            town.mills.put(mill, MILL_RUN, full ? FULL : HALF_TIME);
        }

        private static void clearRests(Town town, int mill) {
            for (int p = 0; p < town.persons.count; p++) {
                if (town.persons.at(p, PERSON_MILL) == mill) {
                    town.persons.put(p, PERSON_REST, 0);
                }
            }
        }

        private int canMake(Town town, int mill, int kind) {
            int can = 0;
            for (int p = 0; p < town.persons.count && p < PERSONS; p++) {
                if (town.persons.at(p, PERSON_MILL) == mill && town.isWeaver(p)) {
                    can += town.piecesOf(p, fullHours[p], kind);
                }
            }
            return can;
        }

        private void runMills(Town town) {
            for (int p = 0; p < town.persons.count && p < PERSONS; p++) {
                int mill = town.persons.at(p, PERSON_MILL);
                int run = mill == NONE ? STOP : town.mills.at(mill, MILL_RUN);
                if (run != STOP) {
                    int hours = run == FULL ? fullHours[p] : fullHours[p] / 2;
                    if (town.isWeaver(p)) {
                        earnPieces(town, p, weave(town, p, hours));
                    } else {
                        wages[p] += hours * town.persons.at(p, PERSON_N);
                    }
                }
            }
        }

        private int weave(Town town, int person, int hours) {
            int mill = town.persons.at(person, PERSON_MILL);
            int kind = town.mills.at(mill, MILL_KIND);
            int cost = town.costOf(kind);
            int wanted = Math.min(town.piecesOf(person, hours, kind), town.mills.at(mill, MILL_TOOK));
            int pieces = spin(town, mill, wanted, town.kinds.at(kind, KIND_YARN));
            int over = town.persons.at(person, PERSON_REST) + town.pointsOf(person, hours) - pieces * cost;
            town.persons.put(person, PERSON_REST, Math.min(over, cost - 1));
            town.mills.raise(mill, MILL_TOOK, -pieces);
            town.mills.raise(mill, MILL_MADE, pieces);
            return pieces;
        }

        /** Buys the bales that so many PIECES want, as far as the COINS go: the PIECES that there is YARN for. */
        private int spin(Town town, int mill, int wanted, int pounds) {
            int lack = wanted * pounds - town.mills.at(mill, MILL_YARN);
            int bales = lack > 0 ? (lack + BALE - 1) / BALE : 0;
            int affordable = cotton > 0 ? town.mills.at(mill, MILL_COINS) / cotton : 0;
            int bought = Math.max(0, Math.min(bales, affordable));
            town.mills.raise(mill, MILL_COINS, -bought * cotton);
            town.mills.raise(mill, MILL_YARN, bought * BALE);
            int pieces = pounds > 0 ? Math.min(wanted, town.mills.at(mill, MILL_YARN) / pounds) : 0;
            town.mills.raise(mill, MILL_YARN, -pieces * pounds);
            return pieces;
        }

        private void earnPieces(Town town, int person, int pieces) {
            int mill = town.persons.at(person, PERSON_MILL);
            int worth = pieces * payFor(mill, town.mills.at(mill, MILL_KIND));
            int teacher = town.persons.at(person, PERSON_TEACHER);
            int own = teacher == NONE ? worth : worth / 3;
            addWages(person, own);
            addWages(teacher, worth - own);
        }

        private void addWages(int person, int coins) {
            if (person >= 0 && person < PERSONS) {
                wages[person] += coins;
            }
        }

        private void settleMills(Town town) {
            for (int p = 0; p < town.persons.count && p < PERSONS; p++) {
                town.mills.raise(town.persons.at(p, PERSON_MILL), MILL_COINS, -wages[p]);
                paid += wages[p];
            }
            for (int mill = 0; mill < town.mills.count; mill++) {
                int pieces = town.mills.at(mill, MILL_MADE);
                int order = town.mills.at(mill, MILL_ORDER);
                town.mills.raise(mill, MILL_COINS, pieces * (town.orders.at(order, ORDER_PRICE) - town.rail));
                town.orders.raise(order, ORDER_LEFT, -pieces);
                made += pieces;
                if (town.mills.at(mill, MILL_COINS) < 0) {
                    town.mills.put(mill, MILL_CLOSED, 1);
                }
            }
        }

        private void levyAndRelieve(Town town) {
            for (int p = 0; p < town.persons.count && p < PERSONS; p++) {
                if (wages[p] >= town.levy) {
                    wages[p] -= town.levy;
                    town.fund += town.levy;
                }
            }
            for (int p = 0; p < town.persons.count && p < PERSONS; p++) {
                boolean struck = town.mills.at(town.persons.at(p, PERSON_MILL), MILL_STRUCK) == 1;
                if (struck && town.fund >= town.relief) {
                    wages[p] += town.relief;
                    town.fund -= town.relief;
                }
            }
        }

        private void writeWages(Town town, WeekBook book) {
            for (int mill = 0; mill < town.mills.count && mill < MILLS; mill++) {
                book.orders[mill] = town.mills.at(mill, MILL_ORDER);
            }
            for (int p = 0; p < town.persons.count && p < PERSONS; p++) {
                int home = town.persons.at(p, PERSON_HOME);
                town.persons.put(p, PERSON_WAGES, wages[p]);
                book.wages[p] = wages[p];
                book.mills[p] = town.persons.at(p, PERSON_MILL);
                if (home >= 0 && home < HOMES) {
                    book.earned[home] += wages[p];
                }
            }
        }

        private void keepHomes(Town town, WeekBook book) {
            book.loafPrice = town.priceIn(LOAF, town.clock);
            for (int home = 0; home < town.homes.count && home < HOMES; home++) {
                if (town.homes.at(home, HOME_GONE) == 0) {
                    buyLoaves(town, book, home);
                }
                town.homes.put(home, HOME_EARNED, book.earned[home]);
                town.homes.put(home, HOME_HUNGER, book.hunger[home]);
                book.loaves += book.bought[home] + book.trusted[home];
                earned += book.earned[home];
                hunger += book.hunger[home];
            }
            town.loaves += book.loaves;
        }

        private void buyLoaves(Town town, WeekBook book, int home) {
            if (home < 0 || home >= HOMES || book.loafPrice <= 0) {
                return;
            }
            int need = town.homes.at(home, HOME_NEED);
            int coins = town.homes.at(home, HOME_COINS) + book.earned[home];
            int bought = Math.min(need, coins / book.loafPrice);
            town.homes.put(home, HOME_COINS, coins - bought * book.loafPrice);
            int trusted = trust(town, home, need - bought, book.loafPrice);
            book.bought[home] = bought;
            book.trusted[home] = trusted;
            book.hunger[home] = need - bought - trusted;
            if (book.hunger[home] == 0) {
                payDebt(town, home);
            }
        }

        private int trust(Town town, int home, int lack, int price) {
            int shop = town.homes.at(home, HOME_SHOP);
            long four = 0;
            for (int w = town.clock - 3; w <= town.clock; w++) {
                four += books.earnedIn(w, home);
            }
            long limit = town.shops.at(shop, SHOP_TRUST) * four / 400;
            int loaves = 0;
            for (int i = 0; i < lack && town.shops.at(shop, SHOP_FAILED) == 0; i++) {
                if (town.shops.at(shop, SHOP_COINS) >= price && town.homes.at(home, HOME_DEBT) + price <= limit) {
                    town.shops.raise(shop, SHOP_COINS, -price);
                    town.shops.raise(shop, SHOP_DEBTS, price);
                    town.homes.raise(home, HOME_DEBT, price);
                    loaves++;
                }
            }
            return loaves;
        }

        private static void payDebt(Town town, int home) {
            int shop = town.homes.at(home, HOME_SHOP);
            int coins = Math.min(town.homes.at(home, HOME_COINS), town.homes.at(home, HOME_DEBT));
            town.homes.raise(home, HOME_COINS, -coins);
            town.homes.raise(home, HOME_DEBT, -coins);
            town.shops.raise(shop, SHOP_DEBTS, -coins);
            town.shops.raise(shop, SHOP_COINS, coins);
        }

        private static void payRents(Town town) {
            for (int shop = 0; shop < town.shops.count; shop++) {
                if (town.shops.at(shop, SHOP_FAILED) == 0) {
                    town.shops.raise(shop, SHOP_COINS, -town.shops.at(shop, SHOP_RENT));
                    town.shops.put(shop, SHOP_FAILED, town.shops.at(shop, SHOP_COINS) < 0 ? 1 : 0);
                }
            }
        }

        private void leave(Town town, WeekBook book) {
            for (int home = 0; home < town.homes.count && home < HOMES; home++) {
                boolean hungry = town.homes.at(home, HOME_GONE) == 0 && book.hunger[home] > 0;
                for (int w = town.clock - 3; w < town.clock; w++) {
                    hungry = hungry && books.hungerIn(w, home) > 0;
                }
                if (hungry) {
                    town.homes.put(home, HOME_GONE, 1);
                    endWorkOf(town, home);
                }
            }
        }

        private static void endWorkOf(Town town, int home) {
            for (int p = 0; p < town.persons.count; p++) {
                if (town.persons.at(p, PERSON_HOME) == home) {
                    town.endWork(p);
                }
            }
        }
    }

    /** Finds how MILLS share half time. Plans are gone through as THE BEST of like ones comes first. */
    private static final class Sharing {
        private static final int RUNS = 3;

        private final long[] earns = new long[MILLS * RUNS * HOMES];
        private final int[] pieces = new int[MILLS * RUNS];
        private final long[] sums = new long[(MILLS + 1) * HOMES];
        private final long[] rests = new long[(MILLS + 1) * HOMES];
        private final int[] restPieces = new int[MILLS + 1];
        private final int[] pays = new int[MILLS];
        private final int[] runs = new int[MILLS];
        private final int[] bestRuns = new int[MILLS];
        private final long[] needs = new long[HOMES];
        private int most;
        int bestHungry;
        int bestPieces;

        int bestRun(int mill) {
            return mill >= 0 && mill < MILLS ? bestRuns[mill] : NONE;
        }

        void plan(Town town, Law law, int mostPieces) {
            most = mostPieces;
            bestHungry = HOMES + 1;
            bestPieces = NONE;
            fillNeeds(town);
            fillPays(town, law);
            Arrays.fill(earns, 0);
            Arrays.fill(pieces, 0);
            for (int p = 0; p < town.persons.count; p++) {
                int mill = town.persons.at(p, PERSON_MILL);
                if (mill != NONE && town.mills.at(mill, MILL_CLOSED) == 0) {
                    addEarnings(town, law, p, mill);
                }
            }
            fillRests(town.mills.count);
            Arrays.fill(sums, 0);
            search(town.mills, 0, 0);
        }

        /** What a HOME needs in coins; one that is GONE needs nothing, so it is never HUNGRY. */
        private void fillNeeds(Town town) {
            int price = town.priceIn(LOAF, town.clock);
            Arrays.fill(needs, 0);
            for (int h = 0; h < town.homes.count && h < HOMES; h++) {
                if (town.homes.at(h, HOME_GONE) == 0) {
                    needs[h] = (long) town.homes.at(h, HOME_NEED) * price;
                }
            }
        }

        private void fillPays(Town town, Law law) {
            for (int mill = 0; mill < town.mills.count && mill < MILLS; mill++) {
                int kind = town.mills.at(mill, MILL_KIND);
                pays[mill] = kind == NONE ? 0 : law.payAt(town, kind, mill, town.clock, town.clock);
            }
        }

        private void addEarnings(Town town, Law law, int person, int mill) {
            int kind = town.mills.at(mill, MILL_KIND);
            int full = law.hoursAt(town, town.persons.at(person, PERSON_AGE), mill, town.clock, town.clock);
            int home = town.persons.at(person, PERSON_HOME);
            for (int run = HALF_TIME; run <= FULL; run++) {
                int hours = run == FULL ? full : full / 2;
                if (!town.isWeaver(person)) {
                    earn(mill, run, home, (long) hours * town.persons.at(person, PERSON_N));
                } else if (kind != NONE) {
                    addPieces(town, person, run, town.piecesOf(person, hours, kind));
                }
            }
        }

        private void addPieces(Town town, int person, int run, int made) {
            int mill = town.persons.at(person, PERSON_MILL);
            int teacher = town.persons.at(person, PERSON_TEACHER);
            if (mill < 0 || mill >= MILLS) {
                return;
            }
            long worth = (long) made * pays[mill];
            long own = teacher == NONE ? worth : worth / 3;
            earn(mill, run, town.persons.at(person, PERSON_HOME), own);
            earn(mill, run, town.persons.at(teacher, PERSON_HOME), worth - own);
            if (run == FULL) {
                pieces[mill * RUNS + FULL] += made;
                pieces[mill * RUNS + HALF_TIME] = pieces[mill * RUNS + FULL] / 2;
            }
        }

        private void earn(int mill, int run, int home, long coins) {
            int place = (mill * RUNS + run) * HOMES + home;
            if (home >= 0 && place >= 0 && place < earns.length) {
                earns[place] += coins;
            }
        }

        /** What MILLS from one on can add at most: how far a plan that is begun could still come. */
        private void fillRests(int mills) {
            Arrays.fill(rests, 0);
            Arrays.fill(restPieces, 0);
            for (int m = Math.min(mills, MILLS) - 1; m >= 0; m--) {
                restPieces[m] = restPieces[m + 1] + pieces[m * RUNS + FULL];
                for (int h = 0; h < HOMES; h++) {
                    rests[m * HOMES + h] = rests[(m + 1) * HOMES + h] + earns[(m * RUNS + FULL) * HOMES + h];
                }
            }
        }

        private int surelyHungry(int mill) {
            int hungry = 0;
            for (int h = 0; h < HOMES; h++) {
                if (sums[mill * HOMES + h] + rests[mill * HOMES + h] < needs[h]) {
                    hungry++;
                }
            }
            return hungry;
        }

        private void search(Rows mills, int mill, int before) {
            if (mill < 0 || mill > MILLS) {
                return;
            }
            int hungry = surelyHungry(mill);
            int reach = Math.min(most, before + restPieces[mill]);
            if (hungry > bestHungry || hungry == bestHungry && reach <= bestPieces) {
                return;
            }
            if (mill >= mills.count || mill >= MILLS) {
                bestHungry = hungry;
                bestPieces = before;
                System.arraycopy(runs, 0, bestRuns, 0, MILLS);
                return;
            }
            int highest = mills.at(mill, MILL_CLOSED) == 0 ? FULL : STOP;
            for (int run = highest; run >= STOP; run--) {
                int now = before + pieces[mill * RUNS + run];
                if (now <= most) {
                    runs[mill] = run;
                    addRun(mill, run);
                    search(mills, mill + 1, now);
                }
            }
        }

        private void addRun(int mill, int run) {
            for (int h = 0; h < HOMES; h++) {
                sums[(mill + 1) * HOMES + h] = sums[mill * HOMES + h] + earns[(mill * RUNS + run) * HOMES + h];
            }
        }
    }

    /** Makes the list that comes nearest to the WISHES. */
    private static final class ListMaker {
        private final int[] best = new int[4];
        private int bestChange;

        int fact(int what) {
            return what >= 0 && what < best.length ? best[what] : NONE;
        }

        /** False, and nothing is made, without WISHES. */
        boolean make(Rows kinds, int oldBase, int oldA, int oldB) {
            int wishes = 0;
            for (int k = 0; k < kinds.count; k++) {
                wishes += kinds.at(k, KIND_WISH) == NONE ? 0 : 1;
            }
            if (wishes <= 0) {
                return false;
            }
            best[3] = NONE;
            for (int a = 0; a <= LIST_TOP; a++) {
                for (int b = 0; b <= LIST_TOP; b++) {
                    int change = Math.abs(a - oldA) + Math.abs(b - oldB);
                    // The squares grow on both sides of the mean of what lacks: only a BASE beside it can be best.
                    int base = Math.floorDiv(lackOf(kinds, a, b), wishes);
                    int lower = Math.max(0, Math.min(LIST_TOP, base));
                    int upper = Math.max(0, Math.min(LIST_TOP, base + 1));
                    weigh(kinds, lower, a, b, change + Math.abs(lower - oldBase));
                    weigh(kinds, upper, a, b, change + Math.abs(upper - oldBase));
                }
            }
            return true;
        }

        private static int partOf(Rows kinds, int kind, int a, int b) {
            return (a * kinds.at(kind, KIND_PICKS) + b * kinds.at(kind, KIND_WIDTH)) / 10;
        }

        private static int lackOf(Rows kinds, int a, int b) {
            int lack = 0;
            for (int k = 0; k < kinds.count; k++) {
                int wished = kinds.at(k, KIND_WISH);
                lack += wished == NONE ? 0 : wished - partOf(kinds, k, a, b);
            }
            return lack;
        }

        private void weigh(Rows kinds, int base, int a, int b, int change) {
            int squares = 0;
            for (int k = 0; k < kinds.count; k++) {
                int wished = kinds.at(k, KIND_WISH);
                int off = wished == NONE ? 0 : wished - base - partOf(kinds, k, a, b);
                squares += off * off;
            }
            if (isBetter(squares, change, base, a, b)) {
                best[0] = base;
                best[1] = a;
                best[2] = b;
                best[3] = squares;
                bestChange = change;
            }
        }

        private boolean isBetter(int squares, int change, int base, int a, int b) {
            if (best[3] == NONE || squares != best[3]) {
                return best[3] == NONE || squares < best[3];
            }
            if (change != bestChange) {
                return change < bestChange;
            }
            if (base != best[0]) {
                return base < best[0];
            }
            return a != best[1] ? a < best[1] : b < best[2];
        }
    }

    /** THE SHEET that was taken last. */
    private static final class Sheet {
        private final int[] places = new int[MILLS * HOMES];
        private final int[] due = new int[MILLS * HOMES];
        int week = NONE;

        static int placeOf(int mill, int home) {
            return mill < 0 || mill >= MILLS || home < 0 || home >= HOMES ? NONE : mill * HOMES + home;
        }

        boolean isTaken() {
            return week != NONE;
        }

        void take(Books books, Town town, int of) {
            week = of;
            books.sumWages(town, of, places);
        }

        int at(int mill, int home) {
            int place = placeOf(mill, home);
            return place < 0 || place >= places.length ? NONE : places[place];
        }

        boolean change(int mill, int home, int mask) {
            int place = placeOf(mill, home);
            if (place < 0 || place >= places.length) {
                return false;
            }
            places[place] ^= mask;
            return true;
        }

        int compare(Books books, Town town, int what) {
            books.sumWages(town, week, due);
            int others = 0;
            int last = NONE;
            for (int i = 0; i < places.length && i < due.length; i++) {
                if (places[i] != due[i]) {
                    others++;
                    last = i;
                }
            }
            if (what == 0) {
                return Math.min(others, 2);
            }
            if (others != 1) {
                return NONE;
            }
            return what == 1 ? last / HOMES : last % HOMES;
        }
    }
}
