import java.util.Arrays;

/** Sentences that name no edge, of part IV of Terms and of promises 30 to 44. */
final class PlainOfPlans {
    private static final int NONE = MillTown.NONE;
    private static final int PIECES = -2;

    private PlainOfPlans() {
    }

    static void all(Edges e) {
        e.of("IV", "TRIED: a TEXT (NONE: none) as if it were", PlainOfPlans::triedAsIf);
        e.of("IV", "what would be EARNED, HUNGER, PIECES made, WAGES of all in these WEEKS", PlainOfPlans::whatWouldBe);
        e.of("IV", "the hands' least, the masters' most.", PlainOfPlans::leastAndMost);
        e.of("IV", "instead of a list", PlainOfPlans::insteadOfList);
        e.of("IV", "(|BASE - old| + |A - old| + |B - old| as told)", PlainOfPlans::changes);
        e.of("IV", "A PROOF that no such list gives two WISHES", PlainOfPlans::noSuchList);
        e.of("IV", "A PERSON earns as in (2), (3) with that many HOURS", PlainOfPlans::earnsAsThen);
        e.of("IV", "The i-th (from 0) a HOME bought in a WEEK leads to the PERSON", PlainOfPlans::leads);
        e.of("IV", "the HOME's PERSONS by numbers one behind the other", PlainOfPlans::personsByNumbers);
        e.of("IV", "THE SHEET of a WEEK", PlainOfPlans::sheetOfWeek);
        e.of("IV", "Taken, it can be altered", PlainOfPlans::sheetStays);
        e.of("IV", "CHECKED against the books", PlainOfPlans::againstBooks);
        e.of("IV", "AN IMAGE: all that goes by WEEKS and all that was told, as they are.", PlainOfPlans::imageOfAll);
        e.of("face", "`NONE = -1`: None.", PlainOfPlans::none);
        promises(e);
    }

    private static void promises(Edges e) {
        e.of(30, "TRIED: 0 EARNED, 1 HUNGER, 2 PIECES, 3 WAGES (as paid by MILLS), 4 MILLS CLOSED, 5 SHOPS FAILED, 6 HOMES"
                + " GONE.", PlainOfPlans::triedAsked);
        e.of(31, "An OFFER is sealed", PlainOfPlans::sealed);
        e.of(32, "What they MEET at.", PlainOfPlans::meetsAt);
        e.of(34, "MADE from an old one", PlainOfPlans::madeFromOld);
        e.of(34, "0 BASE, 1 A, 2 B, 3 the sum of squares.", PlainOfPlans::madeAsked);
        e.of(35, "Whether two KINDS are a PROOF.", PlainOfPlans::proofAsked);
        e.of(36, "SHARED in the clock's WEEK with so many PIECES at most", PlainOfPlans::sharedNow);
        e.of(36, "(0 STOP, 1 HALF, 2 FULL).", PlainOfPlans::sharedRuns);
        e.of(37, "Of a LOAF: 0 its HOME, 1 the WEEK", PlainOfPlans::loafAsked);
        e.of(38, "THE SHEET of a WEEK is taken: true.", PlainOfPlans::sheetTold);
        e.of(39, "What is at a place", PlainOfPlans::placeAsked);
        e.of(41, "CHECKED", PlainOfPlans::checkAsked);
        e.of(43, "BACK to THE IMAGE", PlainOfPlans::backTold);
        e.of(44, "0 the clock, 1 MILLS, 2 SHOPS, 3 HOMES, 4 PERSONS, 5 TEXTS, 6 FORCES, 7 ORDERS, 8 COINS of the FUND,"
                + " 9 LOAVES, 10 bytes of the tape, 11 LEVY, 12 RELIEF, 13 RAIL, 14 DEAR", PlainOfPlans::aboutAsked);
    }

    /** Asked of the class itself: the compiler puts a constant's number into the tests. */
    private static void none(Edge on) {
        try {
            on.is("NONE", MillTown.class.getField("NONE").getInt(null), -1);
        } catch (ReflectiveOperationException e) {
            on.fail("NONE: " + e);
        }
    }

    /** Due.smallTown with an ORDER for all WEEKS: 6, 7, 7, 6 PIECES at 20 coins, and so on. */
    private static MillTown weaving() {
        MillTown t = Due.smallTown();
        t.order(0, 500, 100, 0, 399);
        return t;
    }

    private static void triedAsIf(Edge on) {
        MillTown t = weaving();
        int dear = Due.read(t, "price 30;");
        int act = Due.read(t, "age 0 to 99 hours 30;");
        on.is("none", t.tried(NONE, NONE, 2, 0), 120 + 140);
        on.is("a list", t.tried(dear, NONE, 2, 0), 180 + 210);
        on.is("an act: 3 PIECES and 6000 over, 3 and 12000 over", t.tried(act, NONE, 2, 0), 60 + 60);
        on.is("none again", t.tried(NONE, NONE, 2, 0), 120 + 140);
        t.force(dear, NONE, 0, 399);
        on.is("none, with the list in FORCE", t.tried(NONE, NONE, 2, 0), 180 + 210);
        on.is("the old list as if it were told last", t.tried(0, NONE, 2, 0), 120 + 140);
    }

    private static int[] triedOf(MillTown t, int text, int n) {
        return Edge.facts(4, what -> t.tried(text, NONE, n, what));
    }

    /** EARNED, HUNGER, PIECES and WAGES (LEVY with them) of all in the WEEKS that just went by. */
    private static int[] whatWas(MillTown t, int n, int left, int fund) {
        int[] all = {0, 0, left, t.about(8) - fund};
        for (int week = t.about(0) - n; week < t.about(0); week++) {
            for (int home = 0; home < t.about(3); home++) {
                all[0] += t.book(home, week, 0);
                all[1] += t.book(home, week, 1);
            }
        }
        for (int order = 0; order < t.about(7); order++) {
            all[2] -= t.orderOf(order, 1);
        }
        all[3] += all[0];
        return all;
    }

    private static void whatWouldBe(Edge on) {
        for (int text = NONE; text < 3; text++) {
            MillTown t = weaving();
            t.home(0, 5);
            t.person(1, 12, 2);
            t.person(1, 50, 1);
            t.work(1, 4, 0, 3);
            Due.read(t, "price 30;");
            Due.read(t, "age 13 to 99 hours 48; meals 3;");
            t.fund(0, 3, 0);
            t.order(2, 50, 150, 1, 3);
            t.weeks(1);
            int[] due = triedOf(t, text, 4);
            int left = t.orderOf(0, 1) + t.orderOf(1, 1);
            int fund = t.about(8);
            if (text != NONE) {
                t.force(text, NONE, 1, 399);
            }
            t.weeks(4);
            on.are("what was by TEXT " + text, whatWas(t, 4, left, fund), due);
        }
        MillTown t = weaving();
        on.are("in 3 WEEKS", triedOf(t, NONE, 3), 120 + 140 + 140, 0, 20, 400);
        t.strike(0, true);
        on.are("in 3 WEEKS of a strike: 20 coins are 3 loaves", triedOf(t, NONE, 3), 0, 1 + 4 + 4, 0, 0);
        t.fund(100, 0, 50);
        on.are("with RELIEF in two of them", triedOf(t, NONE, 3), 100, 0, 0, 0);
    }

    private static void leastAndMost(Edge on) {
        int[][] due = {{10, 20, 15}, {20, 10, NONE}, {0, 1000, 500}, {1000, 0, NONE}, {7, 7, 7}};
        for (int[] d : due) {
            MillTown t = new MillTown();
            t.offer(0, d[0]);
            t.offer(1, d[1]);
            on.is("the hands' " + d[0] + ", the masters' " + d[1], t.meet(), d[2]);
        }
    }

    private static void insteadOfList(Edge on) {
        MillTown t = weaving();
        t.wish(0, 77);
        on.is("from an old one, whatever the list tells", t.made(11, 11, 0, 3), 0);
        on.are("it", Edge.facts(3, what -> t.made(11, 11, 0, what)), 11, 11, 0);
        on.is("PAY by the list", t.pay(0, 0, 0, 0), 20);
        Due.enforce(t, "price 5;");
        on.are("with another list", Edge.facts(3, what -> t.made(11, 11, 0, what)), 11, 11, 0);
        t.weeks(1);
        on.is("WAGES by that", t.personOf(0, 8), 30);
    }

    private static void changes(Edge on) {
        // 10 from 5, 1 and 1: 4, 1 and 0 change by 2; 7, 0 and 1 or 4, 0 and 2 by 3; 1, 1 and 1 by 4.
        MillTown t = new MillTown();
        t.wish(0, 10);
        on.are("MADE", Edge.facts(4, what -> t.made(5, 1, 1, what)), 4, 1, 0, 0);
        on.are("MADE from itself", Edge.facts(4, what -> t.made(7, 0, 1, what)), 7, 0, 1, 0);
        on.are("MADE from itself, by width", Edge.facts(4, what -> t.made(4, 0, 2, what)), 4, 0, 2, 0);
        on.are("MADE from far off", Edge.facts(4, what -> t.made(40, 0, 0, what)), 10, 0, 0, 0);
        on.are("MADE from 0", Edge.facts(4, what -> t.made(0, 0, 0, what)), 1, 1, 1, 0);
    }

    private static void noSuchList(Edge on) {
        int[][] pairs = {{60, 30, 20, 60, 30, 21}, {61, 33, 40, 60, 30, 41}, {200, 60, 100, 10, 20, 200}, {60, 30, 20, 60, 30, 20}};
        for (int[] p : pairs) {
            MillTown t = new MillTown();
            t.kind(0, p[0], p[1], 10, 0, 0);
            t.kind(1, p[3], p[4], 10, 0, 0);
            t.wish(0, p[2]);
            t.wish(1, p[5]);
            boolean proof = t.proof(0, 1);
            on.is("PROOF by " + Arrays.toString(p), proof ? 1 : 0, p[2] < p[5] ? 1 : 0);
            on.is("lists that give both", lists(p) > 0 ? 1 : 0, proof ? 0 : 1);
            on.is("squares that are left", Math.min(t.made(0, 0, 0, 3), 1), proof ? 1 : 0);
        }
    }

    private static int lists(int[] p) {
        int lists = 0;
        for (int base = 0; base <= 40; base++) {
            for (int a = 0; a <= 40; a++) {
                for (int b = 0; b <= 40; b++) {
                    if (base + (a * p[0] + b * p[1]) / 10 == p[2] && base + (a * p[3] + b * p[4]) / 10 == p[5]) {
                        lists++;
                    }
                }
            }
        }
        return lists;
    }

    private static void earnsAsThen(Edge on) {
        // A weaver: 7 PIECES of FULL, 4 of HALF; a day hand: 60 and 30 coins; 180 and 80 with it, less by RAIL or LEVY never.
        int[][] due = {{100, 25, 0}, {100, 26, 1}, {6, 13, 0}, {6, 14, 1}, {0, 1, 1}};
        for (int[] d : due) {
            MillTown t = weaving();
            t.person(0, 30, 1);
            t.work(1, 3, 0, 1);
            t.terms(50, 100000);
            t.fund(0, 50, 0);
            t.weeks(1);
            t.price(1, 1, d[1]);
            on.is("HUNGRY with " + d[0] + " PIECES, loaves for " + d[1], t.shared(d[0], NONE), d[2]);
        }
    }

    /** A HOME of a weaver with 120 coins of WAGES, a day hand with 60, and 20 coins of its own. */
    private static MillTown twoEarners() {
        MillTown t = weaving();
        t.person(0, 30, 1);
        t.work(1, 3, 0, 1);
        return t;
    }

    private static void leads(Edge on) {
        MillTown t = twoEarners();
        t.price(1, 0, 24);
        t.weeks(1);
        on.is("LOAVES for 24", t.about(9), 8);
        on.are("the PERSON of each", Edge.facts(8, i -> t.loaf(i, 2)), 0, 0, 0, 0, 0, 1, 1, 1);
        MillTown own = twoEarners();
        own.price(1, 0, 25);
        own.weeks(1);
        on.are("the PERSON of each for 25: the last by its own coins", Edge.facts(8, i -> own.loaf(i, 2)), 0, 0, 0, 0, 0, 1, 1, 1);
        MillTown dear = twoEarners();
        dear.price(1, 0, 60);
        dear.weeks(1);
        on.are("the PERSON of each for 60", Edge.facts(4, i -> dear.loaf(i, 2)), 0, 0, 1, NONE);
        MillTown half = twoEarners();
        half.price(1, 0, 90);
        half.weeks(1);
        on.are("the PERSON of each for 90", Edge.facts(3, i -> half.loaf(i, 2)), 0, 0, NONE);
    }

    private static void personsByNumbers(Edge on) {
        MillTown t = new MillTown();
        t.mill(4, 100, 5000, -1000);
        t.shop(0, 0, 0);
        t.home(0, 0);
        t.home(0, 0);
        int[] homes = {1, 0, 1, 0, 0};
        for (int p = 0; p < homes.length; p++) {
            t.person(homes[p], 30, 1);
        }
        t.strike(0, true);
        for (int p = homes.length - 1; p >= 0; p--) {
            t.work(p, 3, 0, 1);
        }
        t.fund(100, 0, 20);
        t.price(1, 0, 10);
        t.weeks(1);
        on.are("the PERSON of each LOAF", Edge.facts(10, i -> t.loaf(i, 2)), 1, 1, 3, 3, 4, 4, 0, 0, 2, 2);
    }

    private static MillTown sheets() {
        MillTown t = twoEarners();
        t.mill(4, 100, 5000, -1000);
        t.home(0, 0);
        t.person(1, 30, 5);
        t.work(2, 1, 1, 4);
        t.person(1, 30, 1);
        t.work(3, 3, 0, 2);
        return t;
    }

    private static int[] places(MillTown t) {
        return Edge.facts(4, i -> t.onSheet(i / 2, i % 2));
    }

    private static void sheetOfWeek(Edge on) {
        MillTown t = sheets();
        t.weeks(2);
        t.sheet(0);
        on.are("WEEK 0", places(t), 120 + 60, 120, 0, 120);
        t.sheet(1);
        on.are("WEEK 1", places(t), 140 + 60, 120, 0, 140);
    }

    private static void sheetStays(Edge on) {
        MillTown t = sheets();
        t.weeks(1);
        t.sheet(0);
        t.alter(0, 0, 3);
        t.alter(1, 1, 1 << 31);
        on.are("altered", places(t), 180 ^ 3, 120, 0, 120 ^ 1 << 31);
        t.weeks(1);
        on.are("behind another WEEK", places(t), 180 ^ 3, 120, 0, 120 ^ 1 << 31);
        t.sheet(0);
        on.are("taken anew", places(t), 180, 120, 0, 120);
    }

    private static void againstBooks(Edge on) {
        MillTown t = sheets();
        t.image();
        t.weeks(1);
        t.sheet(0);
        on.are("CHECKED", Edge.facts(3, t::check), 0, NONE, NONE);
        t.back();
        t.work(3, 3, 0, 3);
        t.weeks(1);
        on.are("against books that are other", Edge.facts(3, t::check), 1, 0, 1);
        on.are("THE SHEET is as it was", places(t), 180, 120, 0, 120);
        t.alter(0, 1, 120 ^ 180);
        on.are("altered to what the books tell", Edge.facts(3, t::check), 0, NONE, NONE);
    }

    private static void imageOfAll(Edge on) {
        MillTown t = sheets();
        t.kind(3, 70, 40, 20, 1, 6);
        t.price(1, 5, 9);
        t.mean(0, 990);
        t.terms(4, 5000);
        t.fund(500, 2, 10);
        t.offer(0, 5);
        t.wish(3, 50);
        t.weeks(2);
        t.image();
        int[] was = Edge.seen(t);
        t.kind(3, 80, 50, 30, 2, 9);
        t.price(1, 5, 8);
        t.mean(0, 1);
        t.terms(9, 1);
        t.fund(1, 3, 20);
        t.wish(3, 60);
        t.wish(0, 70);
        t.mill(1, 100, 10, 10);
        t.shop(1, 1, 1);
        t.home(0, 77);
        t.person(2, 60, 3);
        t.work(4, 3, 0, 3);
        t.work(0, 1, 0, 3);
        t.order(3, 7, 7, 2, 9);
        t.strike(1, true);
        t.strike(2, true);
        t.offer(1, 9);
        on.is("they MEET", t.meet(), 7);
        t.offer(1, 9);
        t.weeks(3);
        t.back();
        on.same("back()", was, Edge.seen(t));
        on.is("the OFFER of one side alone", t.meet(), NONE);
        t.offer(1, 8);
        on.is("with the other's", t.meet(), 6);
        toldBehindBack(on, t);
    }

    /** What is told behind BACK has nothing of what stood in its place. */
    private static void toldBehindBack(Edge on, MillTown t) {
        on.is("a MILL", t.mill(5, 60, 7, 8), 2);
        on.is("a SHOP", t.shop(9, 10, 11), 1);
        on.is("a HOME", t.home(1, 12), 2);
        on.is("a PERSON", t.person(2, 13, 4), 4);
        on.are("the MILL", Edge.facts(10, what -> t.millOf(2, what)), 5, 0, 7, 0, 0, 0, NONE, 0, NONE, 0);
        on.are("the SHOP", Edge.facts(3, what -> t.shopOf(1, what)), 9, 0, 0);
        on.are("the HOME", Edge.facts(7, what -> t.homeOf(2, what)), 12, 0, 0, 4, 1, 0, 0);
        on.are("the PERSON", Edge.facts(9, what -> t.personOf(4, what)), 2, 13, 4, 0, NONE, 0, NONE, 0, 0);
    }

    private static void triedAsked(Edge on) {
        MillTown t = new MillTown();
        t.mill(8, 100, 3399, -1000);
        t.shop(25, 0, 10);
        t.home(0, 10000);
        t.home(0, 0);
        t.person(0, 30, 5);
        t.work(0, 1, 0, 4);
        t.person(0, 30, 1);
        t.work(1, 3, 0, 50);
        t.person(1, 30, 1);
        t.fund(0, 50, 0);
        Due.enforce(t, "price 1;");
        t.order(0, 500, 100, 0, 399);
        // 6 PIECES, 3000 coins a WEEK by the hour; LEVY of the day hand alone; the MILL is closed behind the first WEEK.
        on.are("in a WEEK", Edge.facts(7, what -> t.tried(NONE, NONE, 1, what)), 6 + 2950, 4, 6, 3006, 1, 0, 0);
        on.are("in 4 WEEKS", Edge.facts(7, what -> t.tried(NONE, NONE, 4, what)), 6 + 2950, 16, 6, 3006, 1, 1, 1);
    }

    private static void sealed(Edge on) {
        MillTown t = new MillTown();
        int[] was = Edge.seen(t);
        on.yes("the hands'", t.offer(0, 3));
        on.same("an OFFER", was, Edge.seen(t));
        on.yes("the masters'", t.offer(1, 9));
        on.same("two OFFERS", was, Edge.seen(t));
        on.is("they MEET", t.meet(), 6);
        on.same("that they MET", was, Edge.seen(t));
    }

    private static void meetsAt(Edge on) {
        MillTown t = new MillTown();
        on.is("without OFFERS", t.meet(), NONE);
        t.offer(0, 40);
        on.is("with one", t.meet(), NONE);
        t.offer(1, 61);
        on.is("with both", t.meet(), 50);
        on.is("they are gone", t.meet(), NONE);
        t.offer(0, 7);
        on.is("with one again", t.meet(), NONE);
        t.offer(1, 7);
        on.is("with both again", t.meet(), 7);
        t.offer(1, 7);
        on.is("with the other alone", t.meet(), NONE);
    }

    private static void madeFromOld(Edge on) {
        MillTown t = new MillTown();
        t.wish(2, 50);
        int[][] old = {{20, 5, 0}, {20, 0, 10}, {11, 5, 3}, {38, 2, 0}};
        for (int[] o : old) {
            on.are("one that gives the WISH stays", Edge.facts(3, what -> t.made(o[0], o[1], o[2], what)), o);
        }
    }

    private static void madeAsked(Edge on) {
        MillTown t = new MillTown();
        t.kind(1, 200, 60, 10, 0, 0);
        t.wish(0, 21);
        t.wish(1, 0);
        // BASE 10 or 11 lies between; by picks or width the second only comes farther off.
        on.are("MADE", Edge.facts(4, what -> t.made(10, 0, 0, what)), 10, 0, 0, 100 + 121);
        on.are("MADE from one more", Edge.facts(4, what -> t.made(11, 0, 0, what)), 11, 0, 0, 121 + 100);
        t.wish(1, 61);
        // 2 + 6 * 3 is one less, 2 + 20 * 3 one more; no other list comes as near.
        on.are("MADE of 21 and 61", Edge.facts(4, what -> t.made(8, 2, 1, what)), 2, 3, 0, 2);
    }

    private static void proofAsked(Edge on) {
        MillTown t = new MillTown();
        t.kind(2, 100, 50, 10, 0, 0);
        t.kind(5, 90, 50, 10, 0, 0);
        t.wish(2, 10);
        on.no("with one WISH", t.proof(2, 5));
        t.wish(5, 11);
        on.yes("less for more", t.proof(2, 5));
        on.no("the other way", t.proof(5, 2));
        t.kind(3, 200, 60, 10, 0, 0);
        on.no("without a WISH of the second", t.proof(2, 0));
        on.no("without a WISH of the first", t.proof(3, 5));
        t.wish(5, NONE);
        on.no("a WISH that is gone", t.proof(2, 5));
    }

    private static void sharedNow(Edge on) {
        MillTown t = weaving();
        t.weeks(1);
        t.price(1, 1, 35);
        t.price(1, 2, 36);
        on.is("HUNGRY in WEEK 1", t.shared(100, NONE), 0);
        t.weeks(1);
        on.is("HUNGRY in WEEK 2", t.shared(100, NONE), 1);
        on.is("PIECES of 100 at most", t.shared(100, PIECES), 7);
        on.is("PIECES of 6 at most", t.shared(6, PIECES), 3);
        on.is("PIECES of 2 at most", t.shared(2, PIECES), 0);
        t.force(Due.read(t, "price 21;"), NONE, 2, 2);
        on.is("HUNGRY by a TEXT of WEEK 2", t.shared(100, NONE), 0);
        t.force(Due.read(t, "price 1; age 0 to 99 hours 1;"), NONE, 3, 3);
        on.is("HUNGRY with a TEXT of WEEK 3", t.shared(100, NONE), 0);
        sharedBehindBack(on);
    }

    /** What a MILL that is no more would have brought counts no more. */
    private static void sharedBehindBack(Edge on) {
        MillTown t = new MillTown();
        t.mill(4, 100, 0, 0);
        t.shop(0, 0, 0);
        t.home(0, 0);
        t.person(0, 30, 5);
        t.image();
        t.mill(4, 100, 5000, -1000);
        t.work(0, 1, 1, 4);
        Due.enforce(t, "price 20;");
        t.order(0, 6, 100, 0, 0);
        t.weeks(1);
        on.is("HUNGRY with two MILLS", t.shared(100, NONE), 0);
        on.is("PIECES with two MILLS", t.shared(100, PIECES), 7);
        t.back();
        on.is("HUNGRY with one", t.shared(100, NONE), 1);
        on.is("PIECES with one", t.shared(100, PIECES), 0);
        on.is("how it runs", t.shared(100, 0), 2);
        on.is("how the other runs", t.shared(100, 1), NONE);
    }

    private static void sharedRuns(Edge on) {
        MillTown t = weaving();
        t.weeks(1);
        int[][] due = {{0, 0}, {2, 0}, {3, 1}, {6, 1}, {7, 2}, {100000, 2}};
        for (int[] d : due) {
            on.is("how it runs with " + d[0], t.shared(d[0], 0), d[1]);
        }
    }

    private static void loafAsked(Edge on) {
        MillTown t = sheets();
        t.mean(1, 13);
        t.weeks(2);
        // 8 loaves a WEEK for each HOME: coins 0, 13, .. 91 of WAGES.
        on.is("LOAVES", t.about(9), 32);
        for (int i = 0; i < 32; i++) {
            on.is("HOME of LOAF " + i, t.loaf(i, 0), i / 8 % 2);
            on.is("WEEK of LOAF " + i, t.loaf(i, 1), i / 16);
        }
    }

    private static void sheetTold(Edge on) {
        MillTown t = sheets();
        on.no("ahead of the WEEK", t.sheet(0));
        t.weeks(1);
        on.yes("behind it", t.sheet(0));
        on.are("THE SHEET", places(t), 180, 120, 0, 120);
        on.no("of the WEEK that comes", t.sheet(1));
        on.are("THE SHEET still", places(t), 180, 120, 0, 120);
    }

    private static void placeAsked(Edge on) {
        MillTown t = sheets();
        t.fund(0, 30, 0);
        t.weeks(1);
        t.sheet(0);
        for (int mill = 0; mill < 8; mill++) {
            for (int home = 0; home < 24; home++) {
                boolean first = mill == 0 && home == 0;
                int due = mill > 1 || home > 1 || mill == 1 && home == 0 ? 0 : first ? 90 + 30 : 90;
                on.is("at MILL " + mill + ", HOME " + home, t.onSheet(mill, home), due);
            }
        }
    }

    private static void checkAsked(Edge on) {
        MillTown t = sheets();
        t.weeks(1);
        t.sheet(0);
        on.are("right", Edge.facts(3, t::check), 0, NONE, NONE);
        t.alter(1, 1, 5);
        on.are("one", Edge.facts(3, t::check), 1, 1, 1);
        t.alter(7, 23, 9);
        on.are("two", Edge.facts(3, t::check), 2, NONE, NONE);
        t.alter(1, 1, 5);
        on.are("the other", Edge.facts(3, t::check), 1, 7, 23);
        t.alter(6, 22, 9);
        t.alter(5, 21, 9);
        on.are("three", Edge.facts(3, t::check), 2, NONE, NONE);
    }

    private static void backTold(Edge on) {
        MillTown t = weaving();
        t.weeks(2);
        on.is("image()", t.image(), 2);
        t.weeks(3);
        on.is("the clock", t.about(0), 5);
        on.is("back()", t.back(), 2);
        on.is("the clock then", t.about(0), 2);
        on.is("PIECES left", t.orderOf(0, 1), 500 - 13);
        t.weeks(1);
        on.is("the WEEK goes by as it did", t.personOf(0, 8), 140);
        on.is("back() once more", t.back(), 2);
        on.is("PIECES left", t.orderOf(0, 1), 500 - 13);
        weekAnew(on);
    }

    /** A HOME buys two LOAVES and one on TRUST in WEEK 4, and lacks one; by another way it is GONE then. */
    private static void weekAnew(Edge on) {
        MillTown t = new MillTown();
        t.mill(4, 100, 5000, -1000);
        t.shop(1000, 100, 0);
        t.home(0, 0);
        t.person(0, 30, 1);
        t.work(0, 3, 0, 1);
        t.mean(1, 10);
        t.image();
        t.strike(0, true);
        t.fund(1000, 0, 20);
        t.weeks(3);
        t.fund(0, 0, 40);
        t.weeks(1);
        t.fund(0, 0, 20);
        t.weeks(1);
        on.are("HUNGER", Edge.facts(5, w -> t.book(0, w, 1)), 2, 1, 2, 0, 1);
        on.is("LOAVES", t.about(9), 2 + 3 + 2 + 4 + 3);
        t.back();
        t.weeks(5);
        on.are("HUNGER by the other way", Edge.facts(5, w -> t.book(0, w, 1)), 4, 4, 4, 4, 0);
        on.is("HUNGER of one that is GONE", t.homeOf(0, 6), 0);
        on.is("LOAVES by the other way", t.about(9), 0);
    }

    private static void aboutAsked(Edge on) {
        MillTown t = new MillTown();
        on.are("at first", Edge.facts(15, t::about), 0, 0, 0, 0, 0, 0, 0, 0, 0, 0, 0, 0, 0, 0, 100000);
        t.mill(4, 100, 0, 0);
        for (int i = 0; i < 2; i++) {
            t.shop(10, 0, 0);
        }
        for (int i = 0; i < 3; i++) {
            t.home(0, 24);
        }
        for (int i = 0; i < 4; i++) {
            t.person(1, 30, 1);
        }
        for (int i = 0; i < 5; i++) {
            Due.read(t, "least " + i + ";");
        }
        for (int i = 0; i < 6; i++) {
            t.force(4, 0, 0, 0);
        }
        for (int i = 0; i < 7; i++) {
            t.order(0, 1, 1, 9, 9);
        }
        t.fund(88, 11, 12);
        t.terms(13, 14);
        Due.feed(t, "0123456789");
        t.weeks(2);
        on.are("then", Edge.facts(15, t::about), 2, 1, 2, 3, 4, 5, 6, 7, 88, 4, 10, 11, 12, 13, 14);
    }
}
