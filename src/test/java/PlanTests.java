/** Promises 30 to 44: what would be, OFFERS, lists, half time shared, LOAVES, THE SHEET, AN IMAGE. */
public final class PlanTests {
    private static final int NONE = MillTown.NONE;
    private static final Due DUE = new Due("PlanTests");

    private static void tries() {
        MillTown t = Due.smallTown();
        t.order(0, 500, 100, 0, 399);
        int[] due = {120 + 140 + 140, 0, 20, 400, 0, 0, 0, NONE};
        for (int what = 0; what < due.length; what++) {
            DUE.is(30, "tried(NONE, NONE, 3, " + what + ")", t.tried(NONE, NONE, 3, what), due[what]);
        }
        int dear = Due.read(t, "price 110;");
        int kept = Due.read(t, "age 0 to 29 hours 60;");
        DUE.is(30, "a dear text", t.tried(dear, NONE, 1, 0), 660);
        DUE.is(30, "a dear text at the mill", t.tried(dear, 0, 1, 3), 660);
        DUE.is(30, "an act that keeps the weaver out", t.tried(kept, NONE, 5, 2), 0);
        DUE.is(30, "hunger: 20 coins buy 3 loaves of 20", t.tried(kept, NONE, 5, 1), 1 + 4 + 4 + 4);
        DUE.is(30, "homes gone behind 4 weeks", t.tried(kept, NONE, 4, 6), 1);
        DUE.is(30, "homes gone behind 3 weeks", t.tried(kept, NONE, 3, 6), 0);
        DUE.is(30, "mills closed in 30 weeks: one without coins for a bale stands, but isn't closed",
                t.tried(dear, NONE, 30, 4), 0);
        DUE.is(30, "shops failed in 30 weeks", t.tried(NONE, NONE, 30, 5), 0);
        t.shop(5, 0, 3);
        DUE.is(30, "shops failed in 2 weeks", t.tried(NONE, NONE, 2, 5), 1);
        DUE.is(30, "nothing is changed", t.about(0), 0);
        DUE.is(30, "nor the home", t.homeOf(0, 0), 20);
        DUE.is(30, "nor the order", t.orderOf(0, 1), 500);
        DUE.is(30, "nor the loaves", t.about(9), 0);
        DUE.is(30, "nor the books", t.book(0, 0, 0), NONE);
        DUE.is(30, "nor the forces", t.about(6), 1);
        t.mill(1, 100, 0, 0);
        DUE.is(30, "at the other mill", t.tried(dear, 1, 1, 0), 120);
        int[][] others = {{-2, NONE, 1, 0}, {3, NONE, 1, 0}, {0, -2, 1, 0}, {0, 2, 1, 0}, {0, NONE, 0, 0},
            {0, NONE, 31, 0}, {0, NONE, 1, 7}, {0, NONE, 1, -1}};
        for (int[] o : others) {
            DUE.is(30, "tried" + java.util.Arrays.toString(o), t.tried(o[0], o[1], o[2], o[3]), NONE);
        }
        // A TEXT that is TRIED stands behind all that hold now.
        Due.enforce(t, "price 1;");
        DUE.is(30, "the tried text is the latest", t.tried(dear, NONE, 1, 0), 660);
        t.weeks(1);
        DUE.is(30, "what is in force", t.book(0, 0, 0), 6);
        DUE.is(30, "a mill that is closed counts", closed().tried(NONE, NONE, 1, 4), 1);
    }

    /** A TEXT that is TRIED holds in WEEK 399, too. */
    private static void triesAtTheLast() {
        MillTown t = Due.smallTown();
        int dear = Due.read(t, "price 110;");
        t.price(1, 0, 1);
        for (int week = 1; week < 400; week++) {
            t.price(1, week, NONE);
        }
        t.fund(100000, 0, 5);
        t.strike(0, true);
        for (int week = 0; week < 350; week += 50) {
            t.weeks(50);
        }
        t.weeks(20);
        t.strike(0, false);
        t.order(0, 500, 100, 399, 399);
        DUE.is(30, "tried over the last 30 weeks", t.tried(NONE, NONE, 30, 0), 120);
        DUE.is(30, "a dear text over the last 30 weeks", t.tried(dear, NONE, 30, 0), 660);
        DUE.is(30, "tried beyond the last", t.tried(NONE, NONE, 31, 0), NONE);
        t.strike(0, true);
        t.weeks(29);
        t.strike(0, false);
        DUE.is(30, "tried in the last week", t.tried(dear, 0, 1, 3), 660);
        DUE.is(30, "tried beyond the last", t.tried(dear, 0, 2, 3), NONE);
        t.weeks(1);
        DUE.is(30, "tried with the clock at 400", t.tried(NONE, NONE, 1, 0), NONE);
    }

    private static MillTown closed() {
        MillTown t = Due.smallTown();
        t.person(0, 30, 1);
        t.work(1, 3, 0, 50);
        t.person(0, 30, 1);
        t.work(2, 3, 0, 50);
        t.order(0, 10, 100, 0, 5);
        DUE.is(30, "a mill that would close", t.tried(NONE, NONE, 1, 4), 1);
        DUE.is(30, "it isn't closed", t.millOf(0, 4), 0);
        t.weeks(1);
        return t;
    }

    private static void offers() {
        MillTown t = new MillTown();
        DUE.is(32, "meet without offers", t.meet(), NONE);
        DUE.no(31, "offer(-1, 0)", t.offer(-1, 0));
        DUE.no(31, "offer(2, 0)", t.offer(2, 0));
        DUE.no(31, "offer(0, -1)", t.offer(0, -1));
        DUE.no(31, "offer(1, 1001)", t.offer(1, 1001));
        DUE.yes(31, "offer(1, 1000)", t.offer(1, 1000));
        DUE.is(32, "meet with one", t.meet(), NONE);
        DUE.yes(31, "offer(0, 0)", t.offer(0, 0));
        DUE.is(32, "0 and 1000", t.meet(), 500);
        DUE.is(32, "both are gone", t.meet(), NONE);
        t.offer(0, 10);
        t.offer(1, 9);
        DUE.is(32, "10 and 9", t.meet(), NONE);
        t.offer(0, 9);
        DUE.is(32, "both stayed, one in place of the former: 9 and 9", t.meet(), 9);
        t.offer(1, 12);
        DUE.is(32, "the hands' is gone", t.meet(), NONE);
        t.offer(0, 11);
        DUE.is(32, "11 and 12, cut", t.meet(), 11);
        t.offer(0, 5);
        t.image();
        t.offer(1, 5);
        t.meet();
        t.back();
        t.offer(1, 7);
        DUE.is(43, "an offer is as it was", t.meet(), 6);
        t.offer(0, 1);
        DUE.is(32, "the masters' is gone", t.meet(), NONE);
        t.back();
        t.offer(1, 9);
        t.image();
        t.offer(1, 5);
        t.back();
        DUE.is(43, "both are as they were", t.meet(), 7);
    }

    private static void made(MillTown t, int base, int a, int b, int... due) {
        for (int what = 0; what < due.length; what++) {
            DUE.is(34, "made(" + base + ", " + a + ", " + b + ", " + what + ")", t.made(base, a, b, what), due[what]);
        }
    }

    private static void lists() {
        MillTown t = new MillTown();
        DUE.is(34, "made without wishes", t.made(0, 0, 0, 0), NONE);
        DUE.no(33, "wish(-1, 0)", t.wish(-1, 0));
        DUE.no(33, "wish(6, 0)", t.wish(6, 0));
        DUE.no(33, "wish(0, -2)", t.wish(0, -2));
        DUE.no(33, "wish(0, 10001)", t.wish(0, 10001));
        DUE.is(34, "made without wishes still", t.made(0, 0, 0, 0), NONE);
        DUE.yes(33, "wish(0, 10000)", t.wish(0, 10000));
        made(t, 0, 0, 0, 40, 40, 40, 9600 * 9600, NONE);
        DUE.yes(33, "wish(0, 0)", t.wish(0, 0));
        made(t, 40, 40, 40, 0, 0, 0, 0);
        t.kind(0, 10, 20, 1, 0, 0);
        // A of 10 PICKS counts 1, B of 20 WIDTH 2: of all that make 50, the one with the least change.
        t.wish(0, 50);
        made(t, 20, 10, 10, 20, 10, 10, 0);
        made(t, 20, 10, 9, 20, 10, 10, 0);
        made(t, 20, 10, 11, 20, 10, 10, 0);
        made(t, 0, 0, 0, 0, 0, 25, 0);
        made(t, 40, 0, 0, 40, 0, 5, 0);
        // Change is least where BASE and A make all of it; the first by BASE.
        made(t, 40, 40, 40, 10, 40, 0, 0);
        int[][] others = {{-1, 0, 0, 0}, {41, 0, 0, 0}, {0, -1, 0, 0}, {0, 41, 0, 0}, {0, 0, -1, 0}, {0, 0, 41, 0},
            {0, 0, 0, -1}, {0, 0, 0, 4}};
        for (int[] o : others) {
            DUE.is(34, "made" + java.util.Arrays.toString(o), t.made(o[0], o[1], o[2], o[3]), NONE);
        }
        t.kind(0, 60, 30, 10, 0, 0);
        t.wish(0, 10);
        t.wish(1, 11);
        made(t, 10, 0, 0, 10, 0, 0, 1);
        made(t, 11, 0, 0, 11, 0, 0, 1);
        made(t, 9, 0, 0, 10, 0, 0, 1);
        t.wish(2, 11);
        // 11 by a BASE of 11 or of 8 and B of 1: both change by 2, the lower BASE is first.
        made(t, 9, 0, 0, 8, 0, 1, 1);
        DUE.yes(33, "wish(1, NONE)", t.wish(1, NONE));
        t.wish(2, NONE);
        made(t, 40, 0, 0, 10, 0, 0, 0);
    }

    private static void proofs() {
        MillTown t = new MillTown();
        t.wish(0, 10);
        DUE.no(35, "one wish", t.proof(0, 1));
        DUE.no(35, "one wish", t.proof(1, 0));
        t.wish(1, 11);
        DUE.yes(35, "alike, but less is wished", t.proof(0, 1));
        DUE.no(35, "the other way round", t.proof(1, 0));
        DUE.no(35, "one and the same", t.proof(0, 0));
        t.kind(0, 61, 30, 10, 0, 0);
        DUE.yes(35, "more picks", t.proof(0, 1));
        t.kind(0, 59, 31, 10, 0, 0);
        DUE.no(35, "fewer picks", t.proof(0, 1));
        t.kind(0, 61, 29, 10, 0, 0);
        DUE.no(35, "less width", t.proof(0, 1));
        t.kind(0, 60, 31, 10, 0, 0);
        DUE.yes(35, "more width", t.proof(0, 1));
        t.wish(0, 11);
        DUE.no(35, "the same wish", t.proof(0, 1));
        t.wish(0, 0);
        DUE.yes(35, "a wish of 0", t.proof(0, 1));
        DUE.no(35, "proof(-1, 0)", t.proof(-1, 0));
        DUE.no(35, "proof(0, 6)", t.proof(0, 6));
        DUE.no(35, "proof(6, 0)", t.proof(6, 0));
    }

    private static void shared(MillTown t, int most, int hungry, int pieces, int... runs) {
        DUE.is(36, "HUNGRY with " + most, t.shared(most, NONE), hungry);
        DUE.is(36, "PIECES with " + most, t.shared(most, -2), pieces);
        for (int m = 0; m < runs.length; m++) {
            DUE.is(36, "how mill " + m + " runs with " + most, t.shared(most, m), runs[m]);
        }
    }

    /** Two MILLS of one weaver each, 6 PIECES of 20 coins in a WEEK; NEED is 24 coins a HOME. */
    private static MillTown twoMills() {
        MillTown t = Due.smallTown();
        t.mill(4, 100, 5000, -1000);
        t.home(0, 0);
        t.person(1, 30, 5);
        t.work(1, 1, 1, 4);
        t.order(0, 12, 100, 0, 0);
        t.weeks(1);
        return t;
    }

    private static void sharing() {
        MillTown t = twoMills();
        // REST of 12000 each: FULL is 7 PIECES, HALF 3 for the MILL, though the weaver makes 4.
        shared(t, 14, 0, 14, 2, 2);
        shared(t, 13, 0, 10, 2, 1);
        shared(t, 9, 0, 6, 1, 1);
        shared(t, 5, 1, 3, 1, 0);
        shared(t, 6, 0, 6, 1, 1);
        shared(t, 2, 2, 0, 0, 0);
        shared(t, 0, 2, 0, 0, 0);
        shared(t, 100000, 0, 14, 2, 2);
        t.price(1, 1, 20);
        // 80 coins of a half buy 4 loaves of 20.
        shared(t, 6, 0, 6, 1, 1);
        t.price(1, 1, 21);
        shared(t, 6, 2, 6, 1, 1);
        shared(t, 7, 1, 7, 2, 0);
        DUE.is(36, "shared(-1, NONE)", t.shared(-1, NONE), NONE);
        DUE.is(36, "shared(100001, NONE)", t.shared(100001, NONE), NONE);
        DUE.is(36, "shared(1, -3)", t.shared(1, -3), NONE);
        DUE.is(36, "shared(1, 2)", t.shared(1, 2), NONE);
        t.strike(0, true);
        shared(t, 14, 0, 14, 2, 2);
        MillTown none = new MillTown();
        shared(none, 5, 0, 0);
        none.mill(4, 100, 0, 0);
        none.shop(0, 0, 0);
        none.home(0, 0);
        none.home(0, 0);
        none.person(0, 30, 10);
        none.person(1, 30, 10);
        none.work(0, 1, 0, 4);
        none.work(1, 3, 0, 1);
        // Without a last ORDER its weavers make nothing, but a day hand has hours.
        shared(none, 0, 1, 0, 2);
    }

    /** HOME 0 and HOME 2 earn at the later MILL: a plan that STOPS the first one is THE BEST, though it comes last. */
    private static void sharingForTheLaterMill() {
        MillTown t = new MillTown();
        t.mill(4, 100, 5000, -1000);
        t.mill(4, 100, 5000, -1000);
        t.shop(0, 0, 0);
        for (int home = 0; home < 3; home++) {
            t.home(0, 0);
            t.person(home, 30, 5);
        }
        t.work(0, 1, 1, 4);
        t.work(1, 1, 0, 4);
        t.work(2, 3, 1, 2);
        Due.enforce(t, "price 20;");
        t.order(0, 12, 100, 0, 0);
        t.weeks(1);
        // NEED is 84 coins: 7 PIECES of 20 and 60 hours of 2 are enough, 4 PIECES and 30 hours aren't.
        t.price(1, 1, 21);
        shared(t, 7, 1, 7, 0, 2);
        shared(t, 10, 1, 10, 1, 2);
        shared(t, 14, 0, 14, 2, 2);
        shared(t, 6, 3, 6, 1, 1);
    }

    private static void sharingWithTooLittle() {
        MillTown t = new MillTown();
        t.mill(4, 100, 0, 0);
        t.shop(0, 0, 0);
        for (int home = 0; home < 24; home++) {
            t.home(0, 0);
            t.person(home, 30, 1);
        }
        shared(t, 5, 24, 0, 2);
        // 60 hours for a coin each are just 4 loaves of 15.
        t.work(23, 3, 0, 1);
        t.mean(1, 15);
        shared(t, 5, 23, 0, 2);
        Due.enforce(t, "meals 1;");
        shared(t, 5, 24, 0, 2);
    }

    private static void sharingOfLearners() {
        MillTown t = closed();
        shared(t, 100, 1, 0, 0);
        MillTown both = new MillTown();
        both.mill(6, 100, 5000, -1000);
        both.shop(0, 0, 0);
        both.home(0, 0);
        both.home(0, 0);
        both.person(0, 30, 5);
        both.person(1, 15, 5);
        both.work(0, 1, 0, 4);
        both.work(1, 2, 0, 2);
        Due.enforce(both, "price 25;");
        both.order(0, 9, 100, 0, 0);
        both.weeks(1);
        // The learner: 6000 of REST and 60000: 3 PIECES, 75 coins, 25 its own; of a half 36000: 2, 16 its own.
        both.price(1, 1, 6);
        shared(both, 100, 0, 10, 2);
        shared(both, 9, 1, 5, 1);
        both.price(1, 1, 7);
        shared(both, 100, 1, 10, 2);
        // The teacher: 12000 and 120000: 7, of a half 72000: 4 PIECES, 100 coins, and 34 of its learner.
        both.price(1, 1, 33);
        shared(both, 9, 1, 5, 1);
        both.price(1, 1, 34);
        shared(both, 9, 2, 5, 1);
    }

    private static void loaf(MillTown t, int i, int... due) {
        for (int what = 0; what < due.length; what++) {
            DUE.is(37, "loaf(" + i + ", " + what + ")", t.loaf(i, what), due[what]);
        }
    }

    private static void loaves() {
        MillTown t = new MillTown();
        DUE.is(37, "no loaf", t.loaf(0, 0), NONE);
        t.mill(8, 100, 50000, -1000);
        t.mill(8, 100, 50000, -1000);
        t.shop(1000, 400, 0);
        t.home(0, 30);
        t.home(0, 0);
        t.person(0, 30, 5);
        t.person(1, 30, 5);
        t.person(0, 40, 5);
        t.work(0, 1, 0, 4);
        t.work(1, 1, 1, 4);
        t.work(2, 3, 1, 1);
        Due.enforce(t, "price 5;");
        t.fund(0, 10, 0);
        t.order(0, 6, 100, 0, 0);
        t.order(0, 6, 99, 0, 0);
        t.price(1, 0, 11);
        t.weeks(1);
        // PERSON 0 has 30 - 10, PERSON 2 60 - 10: coins 0 .. 19 and 20 .. 69; the 30 in the home come behind them.
        loaf(t, 0, 0, 0, 0, 0, 0, NONE);
        loaf(t, 1, 0, 0, 0, 0, 0, NONE);
        loaf(t, 2, 0, 0, 2, 1, 1, NONE);
        loaf(t, 6, 0, 0, 2, 1, 1, NONE);
        loaf(t, 7, 0, 0, NONE, NONE, NONE, NONE);
        // HOME 1 has 20: one loaf bought; TRUST of 20 gives one more.
        loaf(t, 8, 1, 0, 1, 1, 1, NONE);
        loaf(t, 9, 1, 0, NONE, NONE, NONE, NONE);
        loaf(t, 10, NONE, NONE, NONE, NONE, NONE);
        DUE.is(44, "loaves", t.about(9), 10);
        DUE.is(37, "loaf(-1, 0)", t.loaf(-1, 0), NONE);
        DUE.is(37, "loaf(0, -1)", t.loaf(0, -1), NONE);
        t.price(1, 0, 50);
        t.mean(1, 1);
        t.work(0, 0, 0, 0);
        loaf(t, 1, 0, 0, 0, 0, 0);
        t.strike(1, true);
        t.fund(100, 0, 7);
        t.weeks(1);
        // RELIEF counts among WAGES; the mill is struck, so it ran by no order.
        loaf(t, 10, 0, 1, 2, 1, NONE);
        loaf(t, 16, 0, 1, 2, 1, NONE);
        loaf(t, 17, 0, 1, NONE, NONE, NONE);
        loaf(t, 18, 1, 1, 1, 1, NONE);
    }

    private static void loavesOfTheLastHome() {
        MillTown t = new MillTown();
        t.shop(0, 0, 0);
        for (int home = 0; home < 24; home++) {
            t.home(0, 6);
            t.person(home, 30, 1);
        }
        t.weeks(1);
        for (int home = 0; home < 24; home++) {
            loaf(t, home, home, 0, NONE, NONE, NONE);
        }
        loaf(t, 24, NONE, NONE, NONE, NONE, NONE);
    }

    /** A WEEK that went by with more PERSONS, and again, behind BACK, with fewer. */
    private static void weeksGoneByAgain() {
        MillTown t = Due.smallTown();
        t.order(0, 100, 100, 0, 10);
        t.strike(0, true);
        t.image();
        t.person(0, 30, 1);
        t.mill(1, 100, 100, 0);
        t.work(1, 3, 0, 2);
        t.fund(1000, 0, 50);
        t.weeks(1);
        t.sheet(0);
        DUE.is(39, "two with relief", t.onSheet(0, 0), 100);
        loaf(t, 7, 0, 0, 0, 0, NONE);
        t.back();
        t.weeks(1);
        DUE.is(44, "20 coins: three loaves", t.about(9), 3);
        t.person(0, 30, 1);
        t.sheet(0);
        DUE.is(39, "nothing was paid", t.onSheet(0, 0), 0);
        loaf(t, 0, 0, 0, NONE, NONE, NONE);
        loaf(t, 2, 0, 0, NONE, NONE, NONE);
        DUE.is(26, "wages of the one that came later", t.personOf(1, 8), 0);
    }

    private static void sheets() {
        MillTown t = twoMills();
        t.person(0, 50, 1);
        t.person(0, 15, 1);
        t.work(2, 3, 1, 2);
        t.work(3, 4, 0, 1);
        t.order(0, 100, 100, 1, 1);
        t.fund(100, 10, 40);
        DUE.is(39, "onSheet before any", t.onSheet(0, 0), NONE);
        DUE.no(40, "alter before any", t.alter(0, 0, 1));
        DUE.is(41, "check before any", t.check(0), NONE);
        DUE.no(38, "sheet(1)", t.sheet(1));
        DUE.no(38, "sheet(-1)", t.sheet(-1));
        t.weeks(1);
        t.strike(0, true);
        t.weeks(1);
        DUE.yes(38, "sheet(1)", t.sheet(1));
        // 7 PIECES of 20 and 60 hours, LEVY off; at MILL 1 120 for the day hand.
        DUE.is(39, "onSheet(0, 0)", t.onSheet(0, 0), 130 + 50);
        DUE.is(39, "onSheet(1, 0)", t.onSheet(1, 0), 110);
        DUE.is(39, "onSheet(0, 1)", t.onSheet(0, 1), 0);
        DUE.is(39, "onSheet(1, 1)", t.onSheet(1, 1), 130);
        DUE.is(39, "onSheet(7, 23)", t.onSheet(7, 23), 0);
        DUE.is(39, "onSheet(8, 0)", t.onSheet(8, 0), NONE);
        DUE.is(39, "onSheet(-1, 0)", t.onSheet(-1, 0), NONE);
        DUE.is(39, "onSheet(0, 24)", t.onSheet(0, 24), NONE);
        DUE.is(39, "onSheet(0, -1)", t.onSheet(0, -1), NONE);
        DUE.is(41, "check(0)", t.check(0), 0);
        DUE.is(41, "check(1)", t.check(1), NONE);
        DUE.is(41, "check(3)", t.check(3), NONE);
        DUE.is(41, "check(-1)", t.check(-1), NONE);
        DUE.no(40, "alter by 0", t.alter(7, 23, 0));
        DUE.no(40, "alter(8, 0, 1)", t.alter(8, 0, 1));
        DUE.no(40, "alter(-1, 0, 1)", t.alter(-1, 0, 1));
        DUE.no(40, "alter(0, 24, 1)", t.alter(0, 24, 1));
        DUE.no(40, "alter(0, -1, 1)", t.alter(0, -1, 1));
        DUE.yes(40, "alter by all bits", t.alter(7, 23, -1));
        DUE.is(39, "onSheet(7, 23)", t.onSheet(7, 23), -1);
        DUE.is(41, "check(0)", t.check(0), 1);
        DUE.is(41, "check(1)", t.check(1), 7);
        DUE.is(41, "check(2)", t.check(2), 23);
        t.alter(1, 1, 6);
        DUE.is(39, "onSheet(1, 1)", t.onSheet(1, 1), 130 ^ 6);
        t.alter(1, 1, 8);
        DUE.is(41, "check(0) of two", t.check(0), 2);
        DUE.is(41, "check(1) of two", t.check(1), NONE);
        DUE.is(41, "check(2) of two", t.check(2), NONE);
        t.alter(0, 3, 1);
        DUE.is(41, "check(0) of three", t.check(0), 2);
        t.alter(0, 3, 1);
        t.alter(7, 23, -1);
        t.alter(1, 1, 14);
        DUE.is(41, "check(0) of none again", t.check(0), 0);
        DUE.yes(38, "sheet(2)", t.sheet(2));
        // MILL 0 is struck: RELIEF of 40 for two of HOME 0, no LEVY of it. ORDER 2 is over, so MILL 1 stands.
        DUE.is(39, "relief", t.onSheet(0, 0), 80);
        DUE.is(39, "nothing", t.onSheet(1, 1), 0);
        DUE.no(38, "sheet(3)", t.sheet(3));
        DUE.is(39, "the sheet stays", t.onSheet(0, 0), 80);
    }

    private static void sheetsAndBack() {
        MillTown t = Due.smallTown();
        t.order(0, 100, 100, 0, 10);
        t.image();
        t.weeks(1);
        t.sheet(0);
        DUE.is(43, "back()", t.back(), 0);
        DUE.is(41, "check of a week that isn't over", t.check(0), NONE);
        DUE.is(39, "the sheet is as it was", t.onSheet(0, 0), 120);
        DUE.yes(40, "it can be altered", t.alter(0, 0, 1));
        t.weeks(1);
        DUE.is(41, "check of the week gone by again", t.check(0), 1);
        t.alter(0, 0, 1);
        DUE.is(41, "check", t.check(0), 0);
        t.back();
        t.strike(0, true);
        t.weeks(1);
        DUE.is(41, "another week's books", t.check(0), 1);
        DUE.is(41, "check(1)", t.check(1), 0);
    }

    private static void images() {
        MillTown t = Due.smallTown();
        t.order(0, 100, 100, 0, 10);
        t.weeks(2);
        t.kind(2, 100, 40, 20, 5, 7);
        t.price(1, 5, 77);
        t.mean(0, 900);
        t.terms(3, 5000);
        t.fund(50, 5, 6);
        t.wish(2, 44);
        DUE.is(42, "image()", t.image(), 2);
        int[] was = new int[16];
        for (int what = 0; what < 16; what++) {
            was[what] = t.about(what);
        }
        int coins = t.millOf(0, 2);
        int rest = t.personOf(0, 7);
        for (int round = 0; round < 2; round++) {
            t.kind(2, 10, 20, 1, 0, 0);
            t.price(1, 5, 1);
            t.mean(0, 1);
            t.terms(0, 1);
            t.fund(1000, 0, 0);
            t.wish(2, NONE);
            t.mill(1, 100, 0, 0);
            t.shop(0, 0, 0);
            t.home(0, 0);
            t.person(1, 10, 1);
            t.work(0, 3, 0, 1);
            Due.enforce(t, "price 50; meals 5;");
            t.order(1, 5, 5, 2, 3);
            t.strike(0, true);
            t.weeks(3);
            DUE.is(43, "back()", t.back(), 2);
            for (int what = 0; what < 16; what++) {
                DUE.is(43, "about(" + what + ") behind back", t.about(what), was[what]);
            }
            DUE.is(43, "the mill's coins", t.millOf(0, 2), coins);
            DUE.is(43, "struck", t.millOf(0, 5), 0);
            DUE.is(43, "work", t.personOf(0, 3), 1);
            DUE.is(43, "REST", t.personOf(0, 7), rest);
            DUE.is(43, "a price", t.priceOf(1, 5), 77);
            DUE.is(43, "a mean", t.priceOf(0, 0), 900);
            DUE.is(43, "the other mill", t.millOf(1, 0), NONE);
            DUE.is(43, "pay", t.pay(0, 0, 5, 5), 20);
            DUE.is(43, "hours", t.hours(30, 0, 5, 5), 60);
            DUE.is(43, "a wish", t.made(0, 0, 0, 3), 0);
            DUE.is(43, "a book", t.book(0, 1, 0), 140);
            DUE.is(43, "a book that isn't there", t.book(0, 2, 0), NONE);
            DUE.is(43, "a loaf", t.loaf(7, 1), 1);
            DUE.is(43, "a loaf that isn't there", t.loaf(8, 1), NONE);
        }
        t.weeks(1);
        DUE.is(43, "the week goes by as it would have", t.book(0, 2, 0), 140 - 5);
    }

    private static void abouts() {
        MillTown t = Due.smallTown();
        t.order(0, 100, 100, 0, 10);
        t.terms(3, 500);
        t.fund(5, 6, 7);
        Due.read(t, "price 1; least 1;");
        t.feed(0, 0, 0, 0, 0);
        t.weeks(1);
        // Cotton is DEAR: half time, 3 PIECES, 60 coins.
        int[] due = {1, 1, 1, 1, 1, 2, 1, 1, 11, 4, 20, 6, 7, 3, 500, 2, NONE};
        for (int what = 0; what < due.length; what++) {
            DUE.is(44, "about(" + what + ")", t.about(what), due[what]);
        }
        DUE.is(44, "about(-1)", t.about(-1), NONE);
        DUE.is(44, "NONE", MillTown.NONE, -1);
    }

    public static void main(String[] args) {
        tries();
        triesAtTheLast();
        offers();
        lists();
        proofs();
        sharing();
        sharingForTheLaterMill();
        sharingWithTooLittle();
        sharingOfLearners();
        loaves();
        loavesOfTheLastHome();
        weeksGoneByAgain();
        sheets();
        sheetsAndBack();
        images();
        abouts();
        DUE.close();
    }
}
