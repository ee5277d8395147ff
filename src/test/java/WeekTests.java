/** Promises 19 to 29: ORDERS, terms, the FUND, STRIKES, WEEKS going by, and what is told of them. */
public final class WeekTests {
    private static final int NONE = MillTown.NONE;
    private static final Due DUE = new Due("WeekTests");

    private static void mill(MillTown t, int promise, int mill, int... due) {
        for (int what = 0; what < due.length; what++) {
            DUE.is(promise, "millOf(" + mill + ", " + what + ")", t.millOf(mill, what), due[what]);
        }
    }

    private static void orders() {
        MillTown t = new MillTown();
        t.weeks(5);
        int[][] others = {{-1, 1, 1, 5, 5}, {6, 1, 1, 5, 5}, {0, 0, 1, 5, 5}, {0, 501, 1, 5, 5}, {0, 1, 0, 5, 5},
            {0, 1, 10001, 5, 5}, {0, 1, 1, 4, 5}, {0, 1, 1, 6, 5}, {0, 1, 1, 5, 4}, {0, 1, 1, 5, 400}, {0, 1, 1, 400, 400}};
        for (int[] o : others) {
            DUE.is(19, "order" + java.util.Arrays.toString(o), t.order(o[0], o[1], o[2], o[3], o[4]), NONE);
        }
        DUE.is(19, "order(0, 1, 1, 5, 5)", t.order(0, 1, 1, 5, 5), 0);
        DUE.is(19, "order(5, 500, 10000, 399, 399)", t.order(5, 500, 10000, 399, 399), 1);
        int[] due = {5, 500, 10000, 399, 399, NONE};
        for (int what = 0; what < due.length; what++) {
            DUE.is(28, "orderOf(1, " + what + ")", t.orderOf(1, what), due[what]);
        }
        DUE.is(28, "orderOf(1, -1)", t.orderOf(1, -1), NONE);
        DUE.is(28, "orderOf(-1, 0)", t.orderOf(-1, 0), NONE);
        DUE.is(28, "orderOf(2, 0)", t.orderOf(2, 0), NONE);
        for (int o = 2; o < 80; o++) {
            DUE.is(19, "order " + o, t.order(0, 1, 1, 6, 7), o);
        }
        DUE.is(19, "the 81st order", t.order(0, 1, 1, 6, 7), NONE);
        DUE.is(19, "orders", t.about(7), 80);
    }

    /** GAIN of an ORDER at 100: less PAY 20, less 10 pounds at 1000 a bale of 400: 55. */
    private static void gains() {
        for (int least = 54; least <= 56; least++) {
            MillTown t = new MillTown();
            t.mill(4, 100, 5000, least);
            t.shop(0, 0, 0);
            t.home(0, 0);
            t.person(0, 30, 5);
            t.work(0, 1, 0, 4);
            Due.enforce(t, "price 20;");
            t.order(0, 10, 100, 0, 5);
            t.weeks(1);
            DUE.is(23, "the order taken with LEAST " + least, t.millOf(0, 8), least <= 55 ? 0 : NONE);
        }
        MillTown t = Due.smallTown();
        t.order(0, 10, 100, 0, 5);
        t.order(0, 10, 110, 0, 9);
        t.order(0, 10, 110, 0, 8);
        t.order(0, 10, 110, 0, 8);
        t.order(0, 10, 300, 1, 8);
        t.weeks(1);
        DUE.is(23, "the greatest GAIN, the earliest last WEEK, the lowest", t.millOf(0, 8), 2);
        t.weeks(1);
        DUE.is(23, "the one that is known now", t.millOf(0, 8), 4);
        MillTown over = Due.smallTown();
        over.order(0, 100, 100, 0, 0);
        over.weeks(2);
        DUE.is(23, "an order whose last week is over", over.millOf(0, 8), NONE);
        DUE.is(23, "it has the rest still", over.orderOf(0, 1), 94);
        // PAY counts by KIND and by MILL: KIND 1 is paid 60 more than it brings more.
        MillTown kinds = new MillTown();
        kinds.kind(1, 60, 30, 10, 1, 0);
        kinds.mill(4, 100, 5000, -1000);
        kinds.shop(0, 0, 0);
        kinds.home(0, 0);
        kinds.person(0, 30, 5);
        kinds.work(0, 1, 0, 4);
        Due.enforce(kinds, "price 20; when hard = 1 add 60;");
        kinds.order(1, 10, 150, 0, 5);
        kinds.order(0, 10, 100, 0, 5);
        kinds.weeks(1);
        DUE.is(23, "gain by pay", kinds.millOf(0, 8), 1);
    }

    private static void railAndDear() {
        MillTown t = Due.smallTown();
        DUE.no(20, "terms(-1, 1)", t.terms(-1, 1));
        DUE.no(20, "terms(1001, 1)", t.terms(1001, 1));
        DUE.no(20, "terms(0, 0)", t.terms(0, 0));
        DUE.no(20, "terms(0, 100001)", t.terms(0, 100001));
        DUE.is(20, "RAIL at first", t.about(13), 0);
        DUE.is(20, "DEAR at first", t.about(14), 100000);
        DUE.yes(20, "terms(1000, 100000)", t.terms(1000, 100000));
        DUE.yes(20, "terms(0, 1)", t.terms(0, 1));
        DUE.yes(20, "terms(30, 1000)", t.terms(30, 1000));
        DUE.is(20, "RAIL", t.about(13), 30);
        DUE.is(20, "DEAR", t.about(14), 1000);
        t.order(0, 10, 100, 0, 5);
        t.weeks(1);
        // 6 PIECES at 70, 120 WAGES, a bale for 1000.
        mill(t, 20, 0, 4, 4, 5000 - 1000 - 120 + 6 * 70, 300, 0, 0, 0, 2, 0, 6);
        t.terms(0, 999);
        t.order(0, 10, 100, 1, 5);
        t.weeks(1);
        // HALF: 60000 POINTS and a REST of 12000 give 4 PIECES; what is left of ORDER 0 is 4.
        mill(t, 20, 0, 4, 4, 4300 - 80 + 4 * 100, 260, 0, 0, 0, 1, 0, 4);
        DUE.is(20, "REST", t.personOf(0, 7), 0);
        // The GAIN at a RAIL of 1000 is 100 - 1000 - 20 - 25: more than the LEAST of -1000 still, but a loss.
        t.terms(1000, 100000);
        t.weeks(1);
        DUE.is(20, "coins behind a loss", t.millOf(0, 2), 4620 - 6 * 900 - 120);
        DUE.is(20, "closed", t.millOf(0, 4), 1);
    }

    private static void twoMills() {
        MillTown t = Due.smallTown();
        t.mill(4, 100, 5000, -1000);
        t.person(0, 30, 5);
        t.work(1, 1, 1, 4);
        t.order(0, 9, 100, 0, 5);
        t.weeks(1);
        mill(t, 23, 0, 4, 4, 4480, 300, 0, 0, 0, 2, 0, 6);
        // 3 of 6 are half of what it can: still FULL, and so it has a REST of 66000, COST - 1 at most.
        mill(t, 23, 1, 4, 4, 4240, 330, 0, 0, 0, 2, 0, 3);
        DUE.is(23, "REST of the second", t.personOf(1, 7), 17999);
        DUE.is(23, "the order is done", t.orderOf(0, 1), 0);
        t.order(0, 9, 100, 1, 5);
        t.weeks(1);
        // REST and POINTS: 132000 and 137999 give 7 each; 2 are left for the second, less than half.
        DUE.is(23, "pieces of the first", t.millOf(0, 9), 7);
        DUE.is(23, "how the second ran", t.millOf(1, 7), 1);
        DUE.is(23, "pieces of the second", t.millOf(1, 9), 2);
        t.order(0, 7, 100, 2, 5);
        t.weeks(1);
        // REST of the first is 6000: it can make 7, so nothing is left for the second.
        DUE.is(23, "pieces of the first", t.millOf(0, 9), 7);
        mill(t, 23, 1, 4, 4, t.millOf(1, 2), t.millOf(1, 3), 0, 0, 0, 0, NONE, 0);
    }

    private static void kindsChange() {
        MillTown t = Due.smallTown();
        t.order(0, 6, 100, 0, 0);
        t.order(1, 500, 100, 1, 2);
        t.weeks(1);
        DUE.is(23, "REST of the first KIND", t.personOf(0, 7), 12000);
        t.weeks(1);
        DUE.is(23, "REST is 0 with another KIND", t.millOf(0, 9), 6);
        DUE.is(24, "the KIND of its last ORDER", t.millOf(0, 6), 1);
        t.weeks(1);
        DUE.is(23, "REST counts with the same KIND", t.millOf(0, 9), 7);
        t.weeks(1);
        DUE.is(24, "the KIND stays without an ORDER", t.millOf(0, 6), 1);
        DUE.is(23, "REST stays without an ORDER", t.personOf(0, 7), 132000 - 7 * 18000);
        // One loom at 50 with SKILL 1 makes no piece in a WEEK: CAN is 0.
        MillTown weak = new MillTown();
        weak.mill(1, 50, 5000, -1000);
        weak.shop(0, 0, 0);
        weak.home(0, 1000);
        weak.person(0, 30, 1);
        weak.person(0, 30, 1);
        weak.work(0, 1, 0, 1);
        weak.work(1, 3, 0, 5);
        weak.order(2, 10, 100, 0, 5);
        weak.weeks(1);
        mill(weak, 23, 0, 1, 1, 5000, 0, 0, 0, 2, 0, NONE, 0);
        DUE.is(23, "a day hand of a mill that stops", weak.personOf(1, 8), 0);
        DUE.is(23, "REST of a mill that stops", weak.personOf(0, 7), 0);
    }

    private static void cotton() {
        MillTown t = Due.smallTown();
        t.kind(0, 60, 30, 50, 0, 0);
        t.price(0, 0, 2500);
        t.price(0, 1, 2500);
        t.order(0, 500, 1000, 0, 5);
        t.weeks(1);
        // 6 PIECES want 300 pounds: one bale.
        mill(t, 23, 0, 4, 4, 2500 + 6000 - 120, 60, 0, 0, 0, 2, 0, 6);
        MillTown poor = new MillTown();
        poor.mill(8, 100, 999, -1000);
        poor.shop(0, 0, 0);
        poor.home(0, 100);
        poor.person(0, 30, 5);
        poor.person(0, 30, 5);
        poor.work(0, 1, 0, 4);
        poor.work(1, 3, 0, 10);
        poor.order(0, 20, 100, 0, 5);
        poor.weeks(1);
        // No bale for 999: nothing made, but the mill ran, and its day hand costs 600.
        mill(poor, 23, 0, 8, 4, 399, 0, 0, 0, 0, 2, 0, 0);
        DUE.is(23, "REST without yarn", poor.personOf(0, 7), 17999);
        DUE.is(23, "the order has all still", poor.orderOf(0, 1), 20);
        poor.price(0, 1, 399);
        poor.weeks(1);
        // One bale for all it has: 137999 points, 7 PIECES; then 600 of WAGES and 700 come in.
        mill(poor, 23, 0, 8, 4, 100, 290, 0, 0, 0, 2, 0, 7);
        // A bale is 36 PIECES: two weavers want 40, COINS are there for one bale, the second gets 16 of 20.
        MillTown lack = new MillTown();
        lack.mill(12, 200, 1999, -1000);
        lack.shop(0, 0, 0);
        lack.home(0, 0);
        lack.person(0, 30, 5);
        lack.person(0, 30, 5);
        lack.work(0, 1, 0, 6);
        lack.work(1, 1, 0, 6);
        Due.enforce(lack, "price 3;");
        lack.order(0, 40, 100, 0, 5);
        lack.weeks(1);
        DUE.is(23, "the first weaver's PIECES", lack.personOf(0, 8), 60);
        DUE.is(23, "the second weaver's PIECES", lack.personOf(1, 8), 48);
        DUE.is(23, "YARN", lack.millOf(0, 3), 0);
        DUE.is(23, "REST", lack.personOf(1, 7), 17999);
    }

    private static void closing() {
        MillTown t = Due.smallTown();
        t.person(0, 30, 1);
        t.work(1, 3, 0, 50);
        t.person(0, 30, 1);
        t.work(2, 3, 0, 50);
        t.order(0, 10, 100, 0, 5);
        t.weeks(1);
        // 5000 - 1000 - 120 - 6000 + 600.
        mill(t, 23, 0, 4, 4, -1520, 300, 1, 0, 0, 2, 0, 6);
        DUE.no(22, "strike at a closed mill", t.strike(0, true));
        DUE.is(23, "wages are paid all the same", t.personOf(2, 8), 3000);
        t.weeks(1);
        mill(t, 23, 0, 4, 4, -1520, 300, 1, 0, 0, 0, NONE, 0);
        DUE.is(23, "work at a closed mill", t.personOf(0, 3), 1);
        DUE.is(23, "no wages there", t.personOf(0, 8), 0);
        MillTown even = new MillTown();
        even.mill(4, 100, 3000, -1000);
        even.shop(0, 0, 0);
        even.home(0, 0);
        even.person(0, 30, 5);
        even.person(0, 30, 5);
        even.work(0, 1, 0, 4);
        even.work(1, 3, 0, 43);
        even.order(0, 10, 97, 0, 5);
        even.weeks(1);
        DUE.is(23, "coins", even.millOf(0, 2), 3000 - 1000 - 2580 + 582);
        DUE.is(23, "not closed", even.millOf(0, 4), 0);
        even.weeks(1);
        DUE.is(23, "closed", even.millOf(0, 4), 1);
    }

    private static void hoursAndLearners() {
        MillTown t = new MillTown();
        t.mill(10, 100, 9000, -1000);
        t.shop(0, 0, 0);
        t.home(0, 0);
        t.home(0, 0);
        t.person(0, 12, 5);
        t.person(1, 30, 5);
        t.person(0, 17, 5);
        t.person(1, 40, 5);
        t.work(1, 1, 0, 4);
        t.work(0, 2, 1, 2);
        t.work(2, 4, 0, 7);
        t.work(3, 3, 0, 3);
        Due.enforce(t, "price 7; age 5 to 13 hours 31; age 14 to 17 hours 21; age 18 to 99 hours 61; clean 1;");
        t.order(0, 6, 100, 0, 5);
        t.weeks(1);
        // The learner: 2 * 30 * 100 * 5 = 30000, 1 PIECE of 7 coins: 2 are its own. The teacher: 120000, 6, but 5 are left.
        DUE.is(23, "the learner's wages", t.personOf(0, 8), 2);
        DUE.is(23, "the teacher's wages", t.personOf(1, 8), 35 + 5);
        DUE.is(23, "the wages of HALF", t.personOf(2, 8), 140);
        DUE.is(23, "the wages of DAY", t.personOf(3, 8), 180);
        DUE.is(23, "REST of the learner", t.personOf(0, 7), 12000);
        DUE.is(25, "EARNED", t.homeOf(0, 5), 142);
        DUE.is(25, "EARNED", t.homeOf(1, 5), 220);
        t.terms(0, 1);
        t.order(0, 20, 100, 1, 5);
        t.weeks(1);
        // HALF: 15 of 30 hours, 10 of 20, 30 of 60: 15000 + 12000 is 1 PIECE, 60000 + 17999 are 4.
        DUE.is(23, "the learner's wages of a half", t.personOf(0, 8), 2);
        DUE.is(23, "the teacher's wages of a half", t.personOf(1, 8), 28 + 5);
        DUE.is(23, "the wages of HALF of a half", t.personOf(2, 8), 70);
        DUE.is(23, "the wages of DAY of a half", t.personOf(3, 8), 90);
        Due.enforce(t, "clean 0;");
        t.weeks(1);
        // 31, 21 and 61 hours, halved and cut.
        DUE.is(23, "the wages of HALF of a half", t.personOf(2, 8), 70);
        DUE.is(23, "the wages of DAY of a half", t.personOf(3, 8), 90);
    }

    private static void funds() {
        MillTown t = Due.smallTown();
        DUE.no(21, "fund(-1, 0, 0)", t.fund(-1, 0, 0));
        DUE.no(21, "fund(100001, 0, 0)", t.fund(100001, 0, 0));
        DUE.no(21, "fund(0, -1, 0)", t.fund(0, -1, 0));
        DUE.no(21, "fund(0, 51, 0)", t.fund(0, 51, 0));
        DUE.no(21, "fund(0, 0, -1)", t.fund(0, 0, -1));
        DUE.no(21, "fund(0, 0, 501)", t.fund(0, 0, 501));
        DUE.is(21, "no coins come", t.about(8), 0);
        DUE.yes(21, "fund(100000, 50, 500)", t.fund(100000, 50, 500));
        DUE.yes(21, "fund(7, 50, 60)", t.fund(7, 50, 60));
        DUE.is(21, "coins", t.about(8), 100007);
        DUE.is(21, "LEVY", t.about(11), 50);
        DUE.is(21, "RELIEF", t.about(12), 60);
        t.person(0, 30, 1);
        t.person(0, 15, 1);
        t.work(1, 3, 0, 1);
        t.work(2, 4, 0, 1);
        Due.enforce(t, "age 15 to 15 hours 49; age 16 to 29 hours 60; age 30 to 99 hours 50;");
        t.order(0, 500, 100, 0, 9);
        t.weeks(1);
        // 100000 POINTS: 5 PIECES; 50 and 49 for an hour's coin each: the last has less than LEVY.
        DUE.is(21, "wages less levy", t.personOf(0, 8), 50);
        DUE.is(21, "all of it is levy", t.personOf(1, 8), 0);
        DUE.is(21, "less than levy", t.personOf(2, 8), 49);
        DUE.is(21, "coins of the fund", t.about(8), 100107);
        DUE.is(25, "EARNED, levy off", t.homeOf(0, 5), 99);
        DUE.is(30, "WAGES as paid by mills", t.tried(NONE, NONE, 1, 3), 50 + 49 + 120);
        DUE.is(30, "EARNED, levy off", t.tried(NONE, NONE, 1, 0), 70 + 0 + 49);
    }

    private static void strikes() {
        MillTown t = Due.smallTown();
        t.person(0, 30, 1);
        t.person(0, 15, 1);
        t.work(1, 3, 0, 1);
        t.work(2, 4, 0, 1);
        t.person(0, 40, 1);
        t.order(0, 500, 100, 0, 9);
        DUE.no(22, "strike(-1, true)", t.strike(-1, true));
        DUE.no(22, "strike(1, true)", t.strike(1, true));
        DUE.no(22, "strike(0, false)", t.strike(0, false));
        DUE.yes(22, "strike(0, true)", t.strike(0, true));
        DUE.is(24, "STRUCK", t.millOf(0, 5), 1);
        t.fund(100, 20, 45);
        t.weeks(1);
        mill(t, 22, 0, 4, 4, 5000, 0, 0, 1, NONE, 0, NONE, 0);
        DUE.is(22, "relief", t.personOf(0, 8), 45);
        DUE.is(22, "relief", t.personOf(1, 8), 45);
        DUE.is(22, "no relief: the fund has 10", t.personOf(2, 8), 0);
        DUE.is(22, "no relief without work", t.personOf(3, 8), 0);
        DUE.is(22, "the fund", t.about(8), 10);
        DUE.is(22, "EARNED", t.homeOf(0, 5), 90);
        DUE.yes(22, "strike(0, false)", t.strike(0, false));
        t.weeks(1);
        DUE.is(22, "it runs again", t.millOf(0, 7), 2);
        DUE.is(22, "levy of three", t.about(8), 70);
    }

    private static MillTown hungryTown(int shopCoins, int trust, int rent) {
        MillTown t = new MillTown();
        t.mill(4, 100, 50000, -1000);
        t.shop(shopCoins, trust, rent);
        t.home(0, 0);
        t.person(0, 30, 5);
        t.work(0, 1, 0, 4);
        Due.enforce(t, "price 20;");
        t.price(1, 0, 50);
        t.price(1, 1, 50);
        t.order(0, 6, 100, 0, 0);
        return t;
    }

    private static void home(MillTown t, String of, int coins, int debt, int hunger, int shopCoins) {
        DUE.is(25, "COINS, " + of, t.homeOf(0, 0), coins);
        DUE.is(25, "DEBT, " + of, t.homeOf(0, 1), debt);
        DUE.is(25, "HUNGER, " + of, t.homeOf(0, 6), hunger);
        DUE.is(27, "COINS of the shop, " + of, t.shopOf(0, 0), shopCoins);
        DUE.is(27, "DEBTS there, " + of, t.shopOf(0, 1), debt);
    }

    /** EARNED is 120, 4 loaves are 200: two are bought, 20 coins are left. */
    private static void loavesOnTrust() {
        MillTown t = hungryTown(1000, 100, 10);
        t.weeks(1);
        home(t, "trust of 30", 20, 0, 2, 990);
        t = hungryTown(1000, 166, 10);
        t.weeks(1);
        home(t, "trust of 49", 20, 0, 2, 990);
        t = hungryTown(1000, 167, 10);
        t.weeks(1);
        home(t, "trust of 50", 20, 50, 1, 940);
        DUE.is(44, "loaves", t.about(9), 3);
        t.weeks(1);
        // EARNED of both WEEKS is 120: the DEBT stands at what TRUST goes to.
        home(t, "trust of 50 that is used", 20, 50, 4, 930);
        t = hungryTown(1000, 400, 10);
        t.weeks(1);
        home(t, "trust of 120", 0, 80, 0, 1000 - 100 + 20 - 10);
        t = hungryTown(99, 400, 10);
        t.weeks(1);
        home(t, "a shop of 99", 20, 50, 1, 39);
        t = hungryTown(100, 400, 10);
        t.weeks(1);
        home(t, "a shop of 100", 0, 80, 0, 10);
        t = hungryTown(100, 400, 1000);
        t.weeks(1);
        home(t, "a shop that fails", 0, 80, 0, -980);
        DUE.is(27, "FAILED", t.shopOf(0, 2), 1);
        t.price(1, 1, 1);
        t.home(0, 100);
        t.person(1, 30, 1);
        t.work(0, 3, 0, 1);
        t.weeks(1);
        home(t, "no trust, no rent of a shop that failed", 0, 80, 4, -980);
        t.work(0, 1, 0, 4);
        t.order(0, 6, 100, 2, 2);
        t.price(1, 2, 20);
        t.weeks(1);
        home(t, "debt is paid to a shop that failed", 0, 40, 0, -940);
    }

    private static void theThreeWeeksAhead() {
        MillTown t = hungryTown(1000, 400, 0);
        t.price(1, 0, 10);
        t.weeks(1);
        // 80 coins are left; at 40 a loaf they buy 2 of the next WEEK, TRUST of 120 gives 2; 80 of DEBT.
        t.price(1, 1, 40);
        t.weeks(1);
        home(t, "a week behind", 0, 80, 0, 920);
        t.price(1, 2, 40);
        t.weeks(1);
        home(t, "two weeks behind", 0, 120, 3, 880);
        t.price(1, 3, 1);
        t.weeks(1);
        home(t, "three weeks behind, no trust is left", 0, 120, 4, 880);
        MillTown late = hungryTown(1000, 400, 0);
        late.price(1, 0, 10);
        late.price(1, 1, 20);
        late.price(1, 2, 1);
        late.price(1, 3, 1);
        late.price(1, 4, 1);
        late.weeks(3);
        DUE.is(23, "trust in week 2", late.homeOf(0, 1), 4);
        late.weeks(1);
        DUE.is(23, "trust in week 3, of week 0", late.homeOf(0, 1), 8);
        late.weeks(1);
        DUE.is(23, "no trust in week 4", late.homeOf(0, 1), 8);
        DUE.is(23, "hunger in week 4", late.homeOf(0, 6), 4);
    }

    private static void needs() {
        MillTown t = new MillTown();
        t.shop(0, 0, 0);
        t.home(0, 100);
        t.home(0, 5);
        t.person(0, 13, 1);
        t.person(0, 12, 1);
        int[] due = {100, 0, 0, 6, 2, 0, 0, NONE};
        for (int what = 0; what < due.length; what++) {
            DUE.is(25, "homeOf(0, " + what + ")", t.homeOf(0, what), due[what]);
        }
        DUE.is(25, "homeOf(0, -1)", t.homeOf(0, -1), NONE);
        DUE.is(25, "homeOf(-1, 0)", t.homeOf(-1, 0), NONE);
        DUE.is(25, "homeOf(2, 0)", t.homeOf(2, 0), NONE);
        t.weeks(1);
        DUE.is(25, "6 loaves at 6", t.homeOf(0, 0), 64);
        DUE.is(25, "nobody needs nothing", t.homeOf(1, 0), 5);
        DUE.is(25, "nor hungers", t.homeOf(1, 6), 0);
        t.weeks(1);
        t.weeks(1);
        DUE.is(25, "28 coins buy 4", t.homeOf(0, 0), 4);
        DUE.is(25, "HUNGER", t.homeOf(0, 6), 2);
        DUE.is(29, "book(0, 2, 1)", t.book(0, 2, 1), 2);
        DUE.is(29, "book(0, 1, 1)", t.book(0, 1, 1), 0);
        DUE.is(29, "book(0, 2, 0)", t.book(0, 2, 0), 0);
        DUE.is(29, "book(0, 3, 0)", t.book(0, 3, 0), NONE);
        DUE.is(29, "book(0, -1, 0)", t.book(0, -1, 0), NONE);
        DUE.is(29, "book(2, 0, 0)", t.book(2, 0, 0), NONE);
        DUE.is(29, "book(-1, 0, 0)", t.book(-1, 0, 0), NONE);
        DUE.is(29, "book(0, 0, 2)", t.book(0, 0, 2), NONE);
        DUE.is(29, "book(0, 0, -1)", t.book(0, 0, -1), NONE);
        MillTown paid = Due.smallTown();
        paid.order(0, 6, 100, 1, 1);
        paid.weeks(3);
        DUE.is(29, "EARNED in week 0", paid.book(0, 0, 0), 0);
        DUE.is(29, "EARNED in week 1", paid.book(0, 1, 0), 120);
        DUE.is(29, "EARNED in week 2", paid.book(0, 2, 0), 0);
        paid.home(0, 0);
        DUE.is(29, "a home that was not there then", paid.book(1, 1, 0), 0);
    }

    private static void homesThatGo() {
        MillTown t = new MillTown();
        t.mill(10, 100, 5000, 1000);
        t.shop(0, 0, 0);
        t.home(0, 0);
        t.home(0, 9000);
        t.person(0, 30, 1);
        t.person(1, 30, 1);
        t.person(1, 15, 1);
        t.person(1, 40, 1);
        t.work(0, 1, 0, 3);
        t.work(2, 2, 0, 2);
        t.work(1, 1, 0, 1);
        t.weeks(3);
        DUE.is(23, "hungry for three weeks", t.homeOf(0, 2), 0);
        DUE.is(23, "its work", t.personOf(0, 3), 1);
        t.home(0, 0);
        t.person(2, 30, 1);
        t.weeks(1);
        DUE.is(23, "hungry for four weeks", t.homeOf(0, 2), 1);
        DUE.is(23, "its work ends", t.personOf(0, 3), 0);
        DUE.is(23, "its learner's, too", t.personOf(2, 3), 0);
        DUE.is(23, "another's doesn't", t.personOf(1, 3), 1);
        DUE.is(23, "looms had", t.millOf(0, 1), 1);
        DUE.is(23, "another home", t.homeOf(1, 2), 0);
        DUE.is(23, "a later home", t.homeOf(2, 2), 0);
        DUE.is(25, "NEED of a home that is gone", t.homeOf(0, 3), 4);
        t.weeks(2);
        DUE.is(23, "no hunger of who is gone", t.book(0, 5, 1), 0);
        DUE.is(23, "three weeks of the later home", t.homeOf(2, 2), 0);
        t.weeks(1);
        DUE.is(23, "four weeks of the later home", t.homeOf(2, 2), 1);
        // A WEEK without HUNGER between: the four must be one behind the other.
        MillTown between = new MillTown();
        between.shop(0, 0, 0);
        between.home(0, 4);
        between.person(0, 30, 1);
        between.price(1, 2, 1);
        between.weeks(6);
        DUE.is(23, "hunger, but not in week 2", between.homeOf(0, 2), 0);
        between.weeks(1);
        DUE.is(23, "four from week 3 on", between.homeOf(0, 2), 1);
    }

    /** 18 coins of RELIEF buy 3 of 4 loaves: one that lacks is enough, and a WEEK without is enough to stay. */
    private static void homesThatLackOneLoaf() {
        MillTown t = new MillTown();
        t.mill(1, 100, 0, 0);
        t.shop(0, 0, 0);
        t.home(0, 0);
        t.person(0, 30, 1);
        t.work(0, 1, 0, 1);
        t.strike(0, true);
        t.fund(1000, 0, 18);
        t.weeks(3);
        DUE.is(25, "one loaf lacks", t.homeOf(0, 6), 1);
        t.image();
        t.weeks(1);
        DUE.is(23, "one loaf in each of four weeks", t.homeOf(0, 2), 1);
        t.back();
        t.fund(0, 0, 24);
        t.weeks(1);
        DUE.is(25, "none lacks", t.homeOf(0, 6), 0);
        DUE.is(23, "three weeks, then one without", t.homeOf(0, 2), 0);
    }

    private static void clocks() {
        MillTown t = new MillTown();
        DUE.is(23, "weeks(0)", t.weeks(0), NONE);
        DUE.is(23, "weeks(-1)", t.weeks(-1), NONE);
        DUE.is(23, "weeks(53)", t.weeks(53), NONE);
        DUE.is(23, "the clock", t.about(0), 0);
        for (int i = 1; i <= 7; i++) {
            DUE.is(23, "weeks(52)", t.weeks(52), 52 * i);
        }
        DUE.is(23, "beyond 400", t.weeks(37), NONE);
        DUE.is(23, "to 399", t.weeks(35), 399);
        DUE.is(30, "tried for the last week", t.tried(NONE, NONE, 1, 0), 0);
        DUE.is(30, "tried beyond it", t.tried(NONE, NONE, 2, 0), NONE);
        DUE.is(36, "shared in the last week", t.shared(0, NONE), 0);
        DUE.is(19, "order for the last week", t.order(0, 1, 1, 399, 399), 0);
        DUE.is(23, "to 400", t.weeks(1), 400);
        DUE.is(23, "beyond 400", t.weeks(1), NONE);
        DUE.is(36, "shared at 400", t.shared(0, NONE), NONE);
        DUE.is(19, "order at 400", t.order(0, 1, 1, 400, 400), NONE);
        Due.read(t, "price 1;");
        DUE.is(15, "force at 400", t.force(0, NONE, 400, 400), NONE);
        DUE.yes(38, "the last week's sheet", t.sheet(399));
        DUE.no(38, "a sheet of 400", t.sheet(400));
    }

    private static void others() {
        MillTown t = Due.smallTown();
        DUE.is(24, "millOf(0, 10)", t.millOf(0, 10), NONE);
        DUE.is(24, "millOf(0, -1)", t.millOf(0, -1), NONE);
        DUE.is(24, "millOf(1, 0)", t.millOf(1, 0), NONE);
        DUE.is(24, "millOf(-1, 0)", t.millOf(-1, 0), NONE);
        DUE.is(26, "personOf(0, 9)", t.personOf(0, 9), NONE);
        DUE.is(26, "personOf(0, -1)", t.personOf(0, -1), NONE);
        DUE.is(26, "personOf(1, 0)", t.personOf(1, 0), NONE);
        DUE.is(26, "personOf(-1, 0)", t.personOf(-1, 0), NONE);
        DUE.is(27, "shopOf(0, 3)", t.shopOf(0, 3), NONE);
        DUE.is(27, "shopOf(0, -1)", t.shopOf(0, -1), NONE);
        DUE.is(27, "shopOf(1, 0)", t.shopOf(1, 0), NONE);
        DUE.is(27, "shopOf(-1, 0)", t.shopOf(-1, 0), NONE);
        int[] due = {0, 30, 5, 1, 0, 4, NONE, 0, 0};
        for (int what = 0; what < due.length; what++) {
            DUE.is(26, "personOf(0, " + what + ")", t.personOf(0, what), due[what]);
        }
    }

    public static void main(String[] args) {
        orders();
        gains();
        railAndDear();
        twoMills();
        kindsChange();
        cotton();
        closing();
        hoursAndLearners();
        funds();
        strikes();
        loavesOnTrust();
        theThreeWeeksAhead();
        needs();
        homesThatGo();
        homesThatLackOneLoaf();
        clocks();
        others();
        DUE.close();
    }
}
