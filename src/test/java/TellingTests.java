/** Promises 1 to 10: a new object, KINDS, THE WIRE, and who is in the town. */
public final class TellingTests {
    private static final int NONE = MillTown.NONE;
    private static final Due DUE = new Due("TellingTests");

    private static void aNewObject() {
        MillTown t = new MillTown();
        int[] due = {0, 0, 0, 0, 0, 0, 0, 0, 0, 0, 0, 0, 0, 0, 100000, NONE};
        for (int what = 0; what < due.length; what++) {
            DUE.is(1, "about(" + what + ")", t.about(what), due[what]);
        }
        DUE.is(1, "millOf(0, 0)", t.millOf(0, 0), NONE);
        DUE.is(1, "shopOf(0, 0)", t.shopOf(0, 0), NONE);
        DUE.is(1, "homeOf(0, 0)", t.homeOf(0, 0), NONE);
        DUE.is(1, "personOf(0, 0)", t.personOf(0, 0), NONE);
        DUE.is(1, "orderOf(0, 0)", t.orderOf(0, 0), NONE);
        DUE.is(1, "fault(0)", t.fault(0), NONE);
        DUE.is(1, "meet()", t.meet(), NONE);
        MillTown used = Due.smallTown();
        used.kind(3, 100, 40, 5, 5, 5);
        used.price(0, 0, 7);
        used.mean(1, 8);
        used.offer(0, 1);
        used.wish(0, 5);
        used.weeks(3);
        DUE.is(1, "back() to the first image", used.back(), 0);
        for (int what = 0; what < due.length; what++) {
            if (what != 10) {
                DUE.is(1, "about(" + what + ") behind back", used.about(what), due[what]);
            }
        }
        DUE.is(1, "priceOf(0, 0) behind back", used.priceOf(0, 0), 1000);
        DUE.is(1, "priceOf(1, 0) behind back", used.priceOf(1, 0), 6);
        DUE.is(1, "made behind back", used.made(0, 0, 0, 0), NONE);
    }

    private static void kinds() {
        MillTown t = new MillTown();
        t.mill(1, 50, 0, 0);
        Due.enforce(t, "price picks*1000 + width*100 + yarn*10 + hard; extra 29 add 1000; extra 0 take 500;");
        DUE.is(2, "pay of a KIND at first", t.pay(5, 0, 0, 0), 60000 + 3000 + 100);
        DUE.yes(2, "kind(0, 10, 20, 1, 0, 0)", t.kind(0, 10, 20, 1, 0, 0));
        DUE.is(2, "pay by the least", t.pay(0, 0, 0, 0), 10000 + 2000 + 10);
        DUE.yes(2, "kind(5, 30, 60, 50, 9, all)", t.kind(5, 30, 60, 50, 9, (1 << 30) - 1));
        DUE.is(2, "pay by the most", t.pay(5, 0, 0, 0), 30000 + 6000 + 500 + 9 + 500);
        DUE.yes(2, "kind with 200 picks", t.kind(4, 200, 20, 1, 0, 0));
        int[][] others = {{-1, 60, 30, 10, 0, 0}, {6, 60, 30, 10, 0, 0}, {0, 9, 30, 10, 0, 0}, {0, 201, 30, 10, 0, 0},
            {0, 60, 19, 10, 0, 0}, {0, 60, 61, 10, 0, 0}, {0, 60, 30, 0, 0, 0}, {0, 60, 30, 51, 0, 0},
            {0, 60, 30, 10, -1, 0}, {0, 60, 30, 10, 10, 0}, {0, 60, 30, 10, 0, -1}, {0, 60, 30, 10, 0, 1 << 30}};
        for (int[] o : others) {
            DUE.no(2, "kind" + java.util.Arrays.toString(o), t.kind(o[0], o[1], o[2], o[3], o[4], o[5]));
        }
        DUE.is(2, "pay behind others", t.pay(0, 0, 0, 0), 10000 + 2000 + 10);
        t.order(0, 1, 1, 0, 0);
        DUE.no(2, "kind with an ORDER", t.kind(0, 60, 30, 10, 0, 0));
        DUE.is(2, "pay as it was", t.pay(0, 0, 0, 0), 10000 + 2000 + 10);
        DUE.yes(2, "kind without an ORDER", t.kind(1, 60, 30, 10, 0, 0));
    }

    private static void wire() {
        MillTown t = new MillTown();
        int[] means = {1000, 6, 60, 60, 60, 60, 60, 60};
        for (int what = 0; what < 8; what++) {
            DUE.is(5, "mean at first of " + what, t.priceOf(what, 399), means[what]);
        }
        DUE.yes(3, "price(7, 399, 100000)", t.price(7, 399, 100000));
        DUE.is(3, "priceOf(7, 399)", t.priceOf(7, 399), 100000);
        DUE.yes(3, "price(0, 0, 1)", t.price(0, 0, 1));
        DUE.is(3, "priceOf(0, 0)", t.priceOf(0, 0), 1);
        int[][] others = {{-1, 0, 1}, {8, 0, 1}, {0, -1, 1}, {0, 400, 1}, {0, 0, 0}, {0, 0, -2}, {0, 0, 100001}};
        for (int[] o : others) {
            DUE.no(3, "price" + java.util.Arrays.toString(o), t.price(o[0], o[1], o[2]));
        }
        DUE.is(3, "priceOf behind others", t.priceOf(0, 0), 1);
        t.price(1, 4, 9);
        t.price(1, 5, NONE);
        t.price(1, 6, NONE);
        t.price(1, 8, NONE);
        DUE.is(5, "no number: the one before", t.priceOf(1, 6), 9);
        DUE.is(5, "nothing told: the mean", t.priceOf(1, 7), 6);
        DUE.is(5, "no number behind nothing told", t.priceOf(1, 8), 6);
        t.price(1, 0, NONE);
        t.price(1, 1, NONE);
        DUE.yes(4, "mean(1, 100000)", t.mean(1, 100000));
        DUE.is(5, "no number from 0 on", t.priceOf(1, 1), 100000);
        DUE.is(5, "told stays", t.priceOf(1, 5), 9);
        DUE.yes(4, "mean(7, 1)", t.mean(7, 1));
        DUE.is(4, "priceOf(7, 0)", t.priceOf(7, 0), 1);
        DUE.no(4, "mean(8, 1)", t.mean(8, 1));
        DUE.no(4, "mean(-1, 1)", t.mean(-1, 1));
        DUE.no(4, "mean(7, 0)", t.mean(7, 0));
        DUE.no(4, "mean(7, -1)", t.mean(7, NONE));
        DUE.no(4, "mean(7, 100001)", t.mean(7, 100001));
        DUE.is(4, "priceOf behind others", t.priceOf(7, 0), 1);
        DUE.is(5, "priceOf(-1, 0)", t.priceOf(-1, 0), NONE);
        DUE.is(5, "priceOf(8, 0)", t.priceOf(8, 0), NONE);
        DUE.is(5, "priceOf(0, -1)", t.priceOf(0, -1), NONE);
        DUE.is(5, "priceOf(0, 400)", t.priceOf(0, 400), NONE);
    }

    private static void mills() {
        MillTown t = new MillTown();
        int[][] others = {{-1, 100, 0, 0}, {61, 100, 0, 0}, {1, 49, 0, 0}, {1, 201, 0, 0}, {1, 100, -1, 0},
            {1, 100, 1000001, 0}, {1, 100, 0, -1001}, {1, 100, 0, 1001}};
        for (int[] o : others) {
            DUE.is(6, "mill" + java.util.Arrays.toString(o), t.mill(o[0], o[1], o[2], o[3]), NONE);
        }
        DUE.is(6, "no mill yet", t.about(1), 0);
        DUE.is(6, "mill(0, 50, 0, -1000)", t.mill(0, 50, 0, -1000), 0);
        DUE.is(6, "mill(60, 200, 1000000, 1000)", t.mill(60, 200, 1000000, 1000), 1);
        int[] due = {60, 0, 1000000, 0, 0, 0, NONE, 0, NONE, 0};
        for (int what = 0; what < due.length; what++) {
            DUE.is(6, "millOf(1, " + what + ")", t.millOf(1, what), due[what]);
        }
        for (int m = 2; m < 8; m++) {
            DUE.is(6, "mill " + m, t.mill(1, 100, 0, 0), m);
        }
        DUE.is(6, "the ninth mill", t.mill(1, 100, 0, 0), NONE);
        DUE.is(6, "mills", t.about(1), 8);
    }

    private static void shopsAndHomes() {
        MillTown t = new MillTown();
        DUE.is(8, "home without a shop", t.home(0, 0), NONE);
        DUE.is(7, "shop(-1, 0, 0)", t.shop(-1, 0, 0), NONE);
        DUE.is(7, "shop(100001, 0, 0)", t.shop(100001, 0, 0), NONE);
        DUE.is(7, "shop(0, -1, 0)", t.shop(0, -1, 0), NONE);
        DUE.is(7, "shop(0, 401, 0)", t.shop(0, 401, 0), NONE);
        DUE.is(7, "shop(0, 0, -1)", t.shop(0, 0, -1), NONE);
        DUE.is(7, "shop(0, 0, 1001)", t.shop(0, 0, 1001), NONE);
        DUE.is(7, "shop(0, 0, 0)", t.shop(0, 0, 0), 0);
        DUE.is(7, "shop(100000, 400, 1000)", t.shop(100000, 400, 1000), 1);
        DUE.is(7, "shopOf(1, 0)", t.shopOf(1, 0), 100000);
        t.shop(1, 1, 1);
        DUE.is(7, "the fourth shop", t.shop(1, 1, 1), 3);
        DUE.is(7, "the fifth shop", t.shop(1, 1, 1), NONE);
        DUE.is(8, "home(-1, 0)", t.home(-1, 0), NONE);
        DUE.is(8, "home(4, 0)", t.home(4, 0), NONE);
        DUE.is(8, "home(0, -1)", t.home(0, -1), NONE);
        DUE.is(8, "home(0, 10001)", t.home(0, 10001), NONE);
        for (int h = 0; h < 24; h++) {
            DUE.is(8, "home " + h, t.home(h % 4, h == 0 ? 10000 : 0), h);
        }
        DUE.is(8, "the 25th home", t.home(0, 0), NONE);
        DUE.is(8, "homeOf(0, 0)", t.homeOf(0, 0), 10000);
        DUE.is(8, "homes", t.about(3), 24);
    }

    private static void persons() {
        MillTown t = new MillTown();
        t.shop(0, 0, 0);
        DUE.is(9, "person without a home", t.person(0, 30, 1), NONE);
        t.home(0, 0);
        t.home(0, 10000);
        int[][] others = {{-1, 30, 1}, {2, 30, 1}, {0, 4, 1}, {0, 81, 1}, {0, 30, 0}, {0, 30, 11}};
        for (int[] o : others) {
            DUE.is(9, "person" + java.util.Arrays.toString(o), t.person(o[0], o[1], o[2]), NONE);
        }
        DUE.is(9, "person(0, 5, 1)", t.person(0, 5, 1), 0);
        DUE.is(9, "person(1, 80, 10)", t.person(1, 80, 10), 1);
        int[] due = {1, 80, 10, 0, NONE, 0, NONE, 0, 0};
        for (int what = 0; what < due.length; what++) {
            DUE.is(9, "personOf(1, " + what + ")", t.personOf(1, what), due[what]);
        }
        t.weeks(4);
        DUE.is(9, "its home is gone", t.homeOf(0, 2), 1);
        DUE.is(9, "person in a home that is gone", t.person(0, 30, 1), NONE);
        for (int p = 2; p < 60; p++) {
            DUE.is(9, "person " + p, t.person(1, 12, 1), p);
        }
        DUE.is(9, "the 61st person", t.person(1, 12, 1), NONE);
        DUE.is(9, "persons", t.about(4), 60);
        DUE.is(9, "persons of the home", t.homeOf(1, 4), 59);
    }

    private static MillTown workers() {
        MillTown t = new MillTown();
        t.mill(10, 100, 0, 0);
        t.mill(2, 100, 1000, -1000);
        t.shop(0, 0, 0);
        t.home(0, 10000);
        t.person(0, 17, 1);
        t.person(0, 18, 1);
        t.person(0, 40, 1);
        t.person(0, 41, 1);
        return t;
    }

    private static void works() {
        MillTown t = workers();
        int[][] others = {{-1, 1, 0, 1}, {4, 1, 0, 1}, {0, -1, 0, 1}, {0, 5, 0, 1}, {0, 1, 2, 1}, {0, 1, -1, 1},
            {0, 1, 0, 0}, {0, 1, 0, 7}, {0, 1, 1, 3}, {0, 3, 0, 0}, {0, 3, 0, 51}, {0, 3, 2, 1}, {0, 4, 0, 0},
            {0, 4, 0, 51}, {1, 4, 0, 1}, {0, 2, 1, 1}, {0, 2, 0, 1}, {0, 2, -1, 1}, {0, 2, 4, 1}};
        for (int[] o : others) {
            DUE.no(10, "work" + java.util.Arrays.toString(o), t.work(o[0], o[1], o[2], o[3]));
        }
        DUE.is(10, "still none", t.personOf(0, 3), 0);
        DUE.yes(10, "the most of HALF", t.work(0, 4, 0, 50));
        DUE.yes(10, "the most of DAY", t.work(1, 3, 0, 50));
        DUE.is(10, "its n", t.personOf(1, 5), 50);
        DUE.is(10, "LOOMS had by none", t.millOf(0, 1), 0);
        DUE.yes(10, "6 looms", t.work(2, 1, 0, 6));
        DUE.no(10, "6 and 5 of 10 looms", t.work(3, 1, 0, 5));
        DUE.yes(10, "6 and 4 of 10 looms", t.work(3, 1, 0, 4));
        DUE.yes(10, "its own looms aside", t.work(2, 1, 0, 5));
        DUE.is(10, "looms had", t.millOf(0, 1), 9);
        DUE.no(10, "a learner of 2 looms too many", t.work(0, 2, 2, 2));
        DUE.is(10, "its work is as it was", t.personOf(0, 3), 4);
        DUE.no(10, "a learner of 0 looms", t.work(0, 2, 2, 0));
        DUE.no(10, "a learner of 3 looms", t.work(0, 2, 2, 3));
        DUE.yes(10, "a learner of 1 loom", t.work(0, 2, 2, 1));
        DUE.no(10, "a learner under itself", t.work(2, 2, 2, 1));
        DUE.no(10, "a teacher under its learner", t.work(2, 2, 0, 1));
        DUE.no(10, "a learner under day work", t.work(3, 2, 1, 1));
        int[] due = {0, 17, 1, 2, 0, 1, 2, 0};
        for (int what = 0; what < due.length; what++) {
            DUE.is(10, "the learner's " + what, t.personOf(0, what), due[what]);
        }
        DUE.yes(10, "the other weaver moves", t.work(3, 1, 1, 2));
        DUE.is(10, "the learner stays", t.personOf(0, 3), 2);
        DUE.yes(10, "the teacher ends", t.work(2, 0, -9, 99));
        DUE.is(10, "the learner ends, too", t.personOf(0, 3), 0);
        DUE.is(10, "the learner's mill", t.personOf(0, 4), NONE);
        DUE.is(10, "the learner's n", t.personOf(0, 5), 0);
        DUE.is(10, "the learner's teacher", t.personOf(0, 6), NONE);
        DUE.is(10, "looms had behind that", t.millOf(0, 1), 0);
    }

    private static void worksThatEnd() {
        MillTown t = workers();
        t.work(2, 1, 0, 4);
        t.work(0, 2, 2, 2);
        DUE.no(10, "its learner's looms are not its own", t.work(2, 1, 1, 3));
        DUE.yes(10, "the teacher goes to another mill", t.work(2, 1, 1, 2));
        DUE.is(10, "its learner stays behind without work", t.personOf(0, 3), 0);
        // The mill of 1000 coins can't pay its day hand's 3000.
        t.person(0, 30, 10);
        t.work(2, 0, 0, 0);
        t.work(4, 1, 1, 2);
        t.work(1, 3, 1, 50);
        t.order(0, 500, 1, 0, 10);
        t.weeks(1);
        DUE.is(10, "that mill is closed", t.millOf(1, 4), 1);
        DUE.no(10, "work at a closed mill", t.work(3, 3, 1, 1));
        DUE.no(10, "a learner at a closed mill", t.work(3, 2, 4, 1));
        DUE.is(10, "who had work there has it", t.personOf(4, 3), 1);
        DUE.is(10, "REST", t.personOf(4, 7) > 0 ? 1 : 0, 1);
        DUE.yes(10, "to another mill", t.work(4, 1, 0, 2));
        DUE.is(10, "REST is 0 then", t.personOf(4, 7), 0);
        MillTown hungry = new MillTown();
        hungry.mill(10, 100, 0, 0);
        hungry.shop(0, 0, 0);
        hungry.home(0, 0);
        hungry.person(0, 30, 1);
        hungry.weeks(4);
        DUE.no(10, "work of who is gone", hungry.work(0, 1, 0, 1));
        DUE.no(10, "no work of who is gone", hungry.work(0, 0, 0, 1));
    }

    public static void main(String[] args) {
        aNewObject();
        kinds();
        wire();
        mills();
        shopsAndHomes();
        persons();
        works();
        worksThatEnd();
        DUE.close();
    }
}
