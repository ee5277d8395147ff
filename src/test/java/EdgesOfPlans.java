/** Edges that are named by part IV of Terms and by promises 30 to 44. */
final class EdgesOfPlans {
    private static final int NONE = MillTown.NONE;
    private static final int PIECES = -2;

    private EdgesOfPlans() {
    }

    static void all(Edges e) {
        e.of("IV", "put in FORCE now, latest, at a MILL (NONE: all) from this WEEK to the last", EdgesOfPlans::triedForce);
        e.of("IV", "for n WEEKS (1 .. 30)",
                on -> on.range("tried for", 1, 30, v -> new MillTown().tried(NONE, NONE, v, 0) == 0));
        e.of("IV", "MILLS CLOSED, SHOPS FAILED, HOMES GONE behind them.", EdgesOfPlans::triedBehind);
        e.of("IV", "Nothing is changed.", EdgesOfPlans::triedChangesNothing);
        e.of("IV", "both sides seal one (0 .. 1000)", EdgesOfPlans::offerRange);
        e.of("IV", "They MEET if the first isn't above the second: half of both together, cut; both are gone then.",
                EdgesOfPlans::meets);
        e.of("IV", "If they don't, or one lacks, nothing is told but that, and both stay.", EdgesOfPlans::meetsNot);
        e.of("IV", "for KINDS with a WISH (0 .. 10000)", EdgesOfPlans::wishRange);
        e.of("IV", "BASE 0 .. 40, A, B 0 .. 40 each", EdgesOfPlans::listRange);
        e.of("IV", "BASE + (A * PICKS + B * WIDTH) / 10, cut", EdgesOfPlans::listCut);
        e.of("IV", "the least sum of squares of what it differs from WISHES", EdgesOfPlans::leastSquares);
        e.of("IV", "of like ones the least change from the old one", EdgesOfPlans::leastChange);
        e.of("IV", "of like ones the first by BASE, A, B.", EdgesOfPlans::firstList);
        e.of("IV", "the first KIND's PICKS and WIDTH are not below the second's, its WISH is.", EdgesOfPlans::proofs);
        sharing(e);
        books(e);
        promises(e);
    }

    private static void sharing(Edges e) {
        e.of("IV", "each MILL that isn't CLOSED runs FULL, HALF or STOPS", EdgesOfPlans::closedStops);
        e.of("IV", "so that together not more than so many PIECES come", EdgesOfPlans::notMorePieces);
        e.of("IV", "FULL CAN by the KIND of its last ORDER (none: 0), HALF half of that, cut.", EdgesOfPlans::halfOfCan);
        e.of("IV", "REST as it is, YARN or ORDERS not asked", EdgesOfPlans::yarnNotAsked);
        e.of("IV", "LEARNERS' rest to the teacher", EdgesOfPlans::learnersRest);
        e.of("IV", "HOMES, not GONE, whose PERSONS earn less than NEED * PRICE of a loaf.", EdgesOfPlans::hungry);
        e.of("IV", "the fewest HUNGRY; of like ones the most PIECES", EdgesOfPlans::fewestHungry);
        e.of("IV", "of these the first by MILLS (FULL, HALF, STOP; CLOSED ones STOP)", EdgesOfPlans::firstByMills);
        e.of("IV", "PIECES here are of a MILL, not cut by weavers' HALVES.", EdgesOfPlans::notCutByWeavers);
    }

    private static void books(Edges e) {
        e.of("IV", "LOAVES that were bought (also on TRUST) are numbered WEEK by WEEK, HOME by HOME.",
                EdgesOfPlans::loafNumbers);
        e.of("IV", "in whose WAGES the coin i * PRICE lies", EdgesOfPlans::coins);
        e.of("IV", "(LEVY off); without such, or on TRUST, to none.", EdgesOfPlans::leadsToNone);
        e.of("IV", "WAGES (RELIEF, too; LEVY off) by MILL and HOME.", EdgesOfPlans::sheetSums);
        e.of("IV", "altered by masks (exclusive or) one by one", EdgesOfPlans::masks);
        e.of("IV", "right, or one place alone is other: which; or more are.", EdgesOfPlans::others);
        e.of("IV", "BACK: all is so again.", EdgesOfPlans::allAgain);
    }

    private static void promises(Edges e) {
        e.of(30, "NONE for others, or beyond WEEK 400.", EdgesOfPlans::triedRefused);
        e.of(31, "(side 0 the hands', 1 the masters'), in place of its former one: true.", EdgesOfPlans::inPlace);
        e.of(31, "False for others.", EdgesOfPlans::offerRefused);
        e.of(32, "NONE: they don't.", EdgesOfPlans::dontMeet);
        e.of(33, "A WISH of a KIND (v NONE: none): true. False for others.", EdgesOfPlans::wishRefused);
        e.of(34, "(each 0 .. 40)", EdgesOfPlans::oldRange);
        e.of(34, "NONE for others, and without WISHES.", EdgesOfPlans::madeRefused);
        e.of(35, "False for others.", EdgesOfPlans::proofRefused);
        e.of(36, "(0 .. 100000)", on -> on.range("shared", 0, 100000, v -> new MillTown().shared(v, NONE) == 0));
        e.of(36, "what NONE: HUNGRY; -2: PIECES; else how a MILL runs", EdgesOfPlans::sharedWhat);
        e.of(36, "NONE for others, and with the clock at 400.", EdgesOfPlans::sharedRefused);
        e.of(37, "2 the PERSON (NONE), 3 its MILL then (NONE), 4 the ORDER by which that ran (NONE).",
                EdgesOfPlans::loafFacts);
        e.of(37, "NONE for others.", EdgesOfPlans::loafRefused);
        e.of(38, "False: that WEEK isn't over.", EdgesOfPlans::sheetRefused);
        e.of(39, "(MILL 0 .. 7, HOME 0 .. 23)", EdgesOfPlans::placesOfSheet);
        e.of(39, "NONE for others, or none was taken.", EdgesOfPlans::onSheetRefused);
        e.of(40, "THE SHEET is altered by a mask (not 0): true. False for others, or none was taken.",
                EdgesOfPlans::alterRefused);
        e.of(41, "0 how many places are other (0, 1, 2: more), 1 the MILL, 2 the HOME of the one (NONE if it isn't one).",
                EdgesOfPlans::checked);
        e.of(41, "NONE for others, none was taken, or its WEEK isn't over (BACK).", EdgesOfPlans::checkRefused);
        e.of(42, "THE IMAGE is as all is now: the clock.", EdgesOfPlans::imageTold);
        e.of(43, "(it stays; the tape, TEXTS' FAULTS, THE SHEET are as they are): the clock.", EdgesOfPlans::backTold);
        e.of(44, "15 CLAUSES of the latest TEXT (NONE without one).", EdgesOfPlans::clausesOfLatest);
        e.of(44, "NONE for others.", EdgesOfPlans::aboutRefused);
    }

    /** One weaver who makes 6 PIECES a WEEK, 7 in the next, by ORDER 0 for as long as there are WEEKS. */
    private static MillTown weaving() {
        MillTown t = Due.smallTown();
        t.order(0, 500, 100, 0, 399);
        return t;
    }

    private static void triedForce(Edge on) {
        MillTown t = weaving();
        int dear = Due.read(t, "price 110;");
        on.is("without a TEXT", t.tried(NONE, NONE, 1, 3), 120);
        on.is("at all MILLS", t.tried(dear, NONE, 1, 3), 660);
        on.is("at MILL 0", t.tried(dear, 0, 1, 3), 660);
        t.mill(4, 100, 0, 0);
        on.is("at MILL 1", t.tried(dear, 1, 1, 3), 120);
        Due.enforce(t, "price 1;");
        on.is("without a TEXT, by the latest", t.tried(NONE, NONE, 1, 3), 6);
        on.is("latest of all", t.tried(dear, NONE, 1, 3), 660);
        on.is("in each of the WEEKS", t.tried(dear, NONE, 2, 3), 660 + 770);
        for (int force = 2; force < 60; force++) {
            t.force(0, NONE, 0, 399);
        }
        on.is("with 59 FORCES and one more", t.about(6), 60);
        on.is("with 60 FORCES", t.tried(dear, NONE, 1, 3), 660);
        on.is("they are 60 still", t.about(6), 60);
        on.is("PAY is as it was", t.pay(0, 0, 0, 0), 20);
        MillTown late = last(1);
        int pays = Due.read(late, "price 110;");
        on.is("in WEEK 399", late.tried(pays, NONE, 1, 3), 660);
        on.is("WEEK 398 ahead of it", last(2).tried(NONE, NONE, 2, 3), 120 + 140);
    }

    /** A town with so many WEEKS to go, in which nobody worked yet. */
    private static MillTown last(int weeks) {
        MillTown t = weaving();
        t.price(1, 0, 1);
        for (int week = 1; week < 400; week++) {
            t.price(1, week, NONE);
        }
        t.fund(100000, 0, 5);
        t.strike(0, true);
        for (int n = 400 - weeks; n > 0; n -= 50) {
            t.weeks(Math.min(n, 50));
        }
        t.strike(0, false);
        t.fund(0, 0, 0);
        return t;
    }

    private static void triedBehind(Edge on) {
        MillTown t = new MillTown();
        t.mill(8, 100, 3399, -1000);
        t.shop(25, 0, 10);
        t.home(0, 10000);
        t.home(0, 0);
        t.person(0, 30, 5);
        t.work(0, 1, 0, 4);
        t.person(0, 30, 1);
        t.work(1, 3, 0, 50);
        t.person(1, 30, 1);
        t.order(0, 6, 100, 1, 1);
        int[] closed = {0, 1, 1, 1, 1};
        int[] failed = {0, 0, 1, 1, 1};
        int[] gone = {0, 0, 0, 1, 1};
        for (int n = 1; n <= 5; n++) {
            on.is("CLOSED behind " + n, t.tried(NONE, NONE, n, 4), closed[n - 1]);
            on.is("FAILED behind " + n, t.tried(NONE, NONE, n, 5), failed[n - 1]);
            on.is("GONE behind " + n, t.tried(NONE, NONE, n, 6), gone[n - 1]);
            on.is("HUNGER of " + n, t.tried(NONE, NONE, n, 1), Math.min(4 * n, 16));
            on.is("PIECES of " + n, t.tried(NONE, NONE, n, 2), n == 1 ? 0 : 6);
            on.is("WAGES of " + n, t.tried(NONE, NONE, n, 3), n == 1 ? 0 : 3000);
            on.is("EARNED of " + n, t.tried(NONE, NONE, n, 0), n == 1 ? 0 : 3000);
        }
    }

    private static void triedChangesNothing(Edge on) {
        MillTown t = weaving();
        t.person(0, 10, 1);
        t.work(1, 4, 0, 1);
        t.fund(100, 5, 5);
        t.order(3, 5, 50, 1, 2);
        t.weeks(2);
        t.sheet(1);
        int dear = Due.read(t, "price 110; meals 5;");
        int[] was = Edge.seen(t);
        for (int what = 0; what < 7; what++) {
            t.tried(dear, NONE, 30, what);
            t.tried(NONE, 0, 30, what);
            t.tried(dear, NONE, 31, what);
        }
        on.same("tried", was, Edge.seen(t));
        int[] after = new int[3];
        for (int i = 0; i < 3; i++) {
            after[i] = t.tried(NONE, NONE, i + 1, 0);
        }
        t.weeks(1);
        on.is("the WEEK that was tried", t.book(0, 2, 0), after[0]);
        t.weeks(1);
        on.is("the second", t.book(0, 3, 0), after[1] - after[0]);
        t.weeks(1);
        on.is("the third", t.book(0, 4, 0), after[2] - after[1]);
    }

    private static void offerRange(Edge on) {
        on.range("the hands'", 0, 1000, v -> new MillTown().offer(0, v));
        on.range("the masters'", 0, 1000, v -> new MillTown().offer(1, v));
    }

    private static int meeting(int hands, int masters) {
        MillTown t = new MillTown();
        t.offer(0, hands);
        t.offer(1, masters);
        return t.meet();
    }

    private static void meets(Edge on) {
        int[][] due = {{9, 10, 9}, {10, 10, 10}, {11, 10, NONE}, {0, 0, 0}, {0, 1, 0}, {0, 2, 1}, {0, 3, 1}, {999, 1000, 999},
            {1000, 1000, 1000}, {1000, 999, NONE}, {0, 1000, 500}, {1, 0, NONE}};
        for (int[] d : due) {
            on.is(d[0] + " and " + d[1], meeting(d[0], d[1]), d[2]);
        }
        MillTown t = new MillTown();
        t.offer(0, 5);
        t.offer(1, 5);
        on.is("they MEET", t.meet(), 5);
        t.offer(1, 9);
        on.is("the hands' is gone", t.meet(), NONE);
        t.offer(0, 9);
        on.is("the masters' is there", t.meet(), 9);
        t.offer(0, 1);
        on.is("the masters' is gone", t.meet(), NONE);
    }

    private static void meetsNot(Edge on) {
        MillTown t = new MillTown();
        on.none(t, "both lack", t::meet);
        t.offer(0, 10);
        on.none(t, "one lacks", t::meet);
        t.offer(1, 9);
        on.none(t, "10 and 9", t::meet);
        on.none(t, "again", t::meet);
        t.offer(1, 10);
        on.is("the hands' stayed", t.meet(), 10);
        t.offer(1, 20);
        on.none(t, "the hands' lacks", t::meet);
        t.offer(0, 21);
        on.none(t, "21 and 20", t::meet);
        t.offer(0, 20);
        on.is("the masters' stayed", t.meet(), 20);
    }

    private static void wishRange(Edge on) {
        for (int v : new int[] {Integer.MIN_VALUE, -2, 10001, Integer.MAX_VALUE}) {
            MillTown t = new MillTown();
            on.no("a WISH of " + v, t.wish(0, v));
            on.is("none", t.made(0, 0, 0, 0), NONE);
        }
        int[][] due = {{0, 0}, {1, 0}, {9999, 9599 * 9599}, {10000, 9600 * 9600}};
        for (int[] d : due) {
            MillTown t = new MillTown();
            on.yes("a WISH of " + d[0], t.wish(0, d[0]));
            on.is("it is told", t.made(40, 40, 40, 3), d[1]);
        }
    }

    private static void list(Edge on, MillTown t, String of, int[] old, int... due) {
        for (int what = 0; what < due.length; what++) {
            on.is(of + ": made, " + what, t.made(old[0], old[1], old[2], what), due[what]);
        }
    }

    /** PICKS 10 and WIDTH 20 alone: A counts one, B two. */
    private static MillTown plainKind(int wish) {
        MillTown t = new MillTown();
        t.kind(0, 10, 20, 1, 0, 0);
        t.wish(0, wish);
        return t;
    }

    private static void listRange(Edge on) {
        int[] none = {0, 0, 0};
        int[] most = {40, 40, 40};
        list(on, plainKind(159), "159", most, 39, 40, 40, 0);
        list(on, plainKind(160), "160", none, 40, 40, 40, 0);
        list(on, plainKind(161), "161", none, 40, 40, 40, 1);
        list(on, plainKind(0), "0", most, 0, 0, 0, 0);
        list(on, plainKind(1), "1", new int[] {40, 0, 0}, 1, 0, 0, 0);
        list(on, plainKind(40), "40 by BASE", new int[] {40, 0, 0}, 40, 0, 0, 0);
        list(on, plainKind(40), "40 by A", new int[] {0, 40, 0}, 0, 40, 0, 0);
        list(on, plainKind(80), "80 by B", new int[] {0, 0, 40}, 0, 0, 40, 0);
        list(on, plainKind(82), "82 by B", new int[] {0, 0, 40}, 0, 2, 40, 0);
        // A BASE of -1 would give both with an A of 2.
        MillTown below = new MillTown();
        below.kind(0, 10, 20, 1, 0, 0);
        below.kind(1, 20, 20, 1, 0, 0);
        below.wish(0, 1);
        below.wish(1, 3);
        list(on, below, "1 and 3", new int[] {0, 1, 0}, 0, 1, 0, 1);
        // A BASE of -1 with an A of 1 would give 3 and 2: 4 of squares.
        MillTown less = new MillTown();
        less.kind(0, 40, 40, 1, 0, 0);
        less.kind(1, 30, 40, 1, 0, 0);
        less.wish(0, 3);
        less.wish(1, 0);
        list(on, less, "3 and 0", new int[] {0, 0, 0}, 1, 0, 0, 5);
    }

    private static void listCut(Edge on) {
        // A of 1: PICKS of 19, 20 and 21 count 1, 2 and 2.
        int[][] due = {{19, 1}, {20, 2}, {21, 2}, {29, 2}, {30, 3}, {10, 1}};
        for (int[] d : due) {
            MillTown t = new MillTown();
            t.kind(0, d[0], 60, 1, 0, 0);
            t.wish(0, d[1]);
            list(on, t, "PICKS " + d[0], new int[] {0, 1, 0}, 0, 1, 0, 0);
        }
        // Both together are cut: 15 and 25 are 40.
        MillTown both = new MillTown();
        both.kind(0, 15, 25, 1, 0, 0);
        both.wish(0, 4);
        list(on, both, "PICKS 15 and WIDTH 25", new int[] {0, 1, 1}, 0, 1, 1, 0);
    }

    private static void leastSquares(Edge on) {
        MillTown t = new MillTown();
        t.kind(0, 10, 20, 1, 0, 0);
        t.kind(1, 10, 20, 1, 0, 0);
        int[][] due = {{10, 10, 10, 0}, {10, 11, 10, 1}, {10, 12, 11, 2}, {10, 13, 11, 5}};
        for (int[] d : due) {
            t.wish(0, d[0]);
            t.wish(1, d[1]);
            list(on, t, d[0] + " and " + d[1], new int[] {d[2], 0, 0}, d[2], 0, 0, d[3]);
        }
        // 10, 10 and 13: 11 differs by 1, 1 and 2; 12 by 2, 2 and 1.
        t.kind(2, 10, 20, 1, 0, 0);
        t.wish(0, 10);
        t.wish(1, 10);
        t.wish(2, 13);
        list(on, t, "10, 10 and 13", new int[] {12, 0, 0}, 11, 0, 0, 6);
        // 11, 11 and 12: 11 and a third; 11, 12 and 12: 11 and two thirds.
        t.wish(0, 11);
        t.wish(1, 11);
        t.wish(2, 12);
        list(on, t, "11, 11 and 12", new int[] {12, 0, 0}, 11, 0, 0, 1);
        t.wish(1, 12);
        list(on, t, "11, 12 and 12", new int[] {12, 0, 0}, 12, 0, 0, 1);
        list(on, t, "11, 12 and 12 from 11", new int[] {11, 0, 0}, 11, 1, 0, 1);
        MillTown large = new MillTown();
        for (int kind = 0; kind < 6; kind++) {
            large.kind(kind, 10, 20, 1, 0, 0);
            large.wish(kind, 10000);
        }
        list(on, large, "six WISHES of 10000", new int[] {0, 0, 0}, 40, 40, 40, 6 * 9840 * 9840);
    }

    private static void leastChange(Edge on) {
        int[] old = {20, 10, 10};
        list(on, plainKind(50), "50 as it is", old, 20, 10, 10, 0);
        list(on, plainKind(51), "51", old, 20, 11, 10, 0, NONE);
        list(on, plainKind(52), "52 by a B more", old, 20, 10, 11, 0);
        list(on, plainKind(49), "49 by a BASE less", old, 19, 10, 10, 0);
        list(on, plainKind(48), "48 by a B less", old, 20, 10, 9, 0);
        list(on, plainKind(53), "53 by a B and an A more", old, 20, 11, 11, 0);
    }

    private static void firstList(Edge on) {
        int[] old = {20, 10, 10};
        // One less by BASE or by A; one more by A or by BASE: the lower BASE is first, then the lower A.
        list(on, plainKind(49), "49", old, 19, 10, 10, 0);
        list(on, plainKind(51), "51", old, 20, 11, 10, 0);
        list(on, plainKind(11), "11 from 9, 1 and 1", new int[] {9, 1, 1}, 8, 1, 1, 0);
        list(on, plainKind(4), "4 from 40s", new int[] {40, 40, 40}, 0, 4, 0, 0);
        list(on, plainKind(41), "41 from 40s", new int[] {40, 40, 40}, 1, 40, 0, 0);
        list(on, plainKind(3), "3 from 0, 40 and 40", new int[] {0, 40, 40}, 0, 3, 0, 0);
        // PICKS and WIDTH alike: A or B, one more: the lower A is first.
        MillTown t = new MillTown();
        t.kind(0, 20, 20, 1, 0, 0);
        t.wish(0, 10);
        list(on, t, "2 more by A or B", new int[] {0, 2, 2}, 0, 2, 3, 0);
        // The same where the BASE is as high as the later A.
        MillTown high = new MillTown();
        high.kind(0, 20, 20, 1, 0, 0);
        high.wish(0, 18);
        list(on, high, "2 less by A or B", new int[] {4, 4, 4}, 4, 3, 4, 0);
        MillTown wide = new MillTown();
        wide.kind(0, 20, 20, 1, 0, 0);
        wide.wish(0, 14);
        list(on, wide, "2 more by A or B, from a lower A", new int[] {0, 1, 5}, 0, 1, 6, 0);
        wide.wish(0, 22);
        list(on, wide, "2 more by A or B, from a BASE above A", new int[] {8, 1, 5}, 8, 1, 6, 0);
        // WISHES that no list comes near to: B of 35 and of 39 are alike, 37 lies between.
        MillTown far = new MillTown();
        int[][] kinds = {{14, 53, 169}, {15, 28, 529}, {17, 40, 193}};
        for (int kind = 0; kind < 3; kind++) {
            far.kind(kind, kinds[kind][0], kinds[kind][1], 1, 0, 0);
            far.wish(kind, kinds[kind][2]);
        }
        list(on, far, "B of 35 or 39", new int[] {40, 40, 37}, 40, 40, 35, 125130);
        list(on, far, "B of 35", new int[] {40, 40, 36}, 40, 40, 35, 125130);
        list(on, far, "B of 39", new int[] {40, 40, 38}, 40, 40, 39, 125130);
    }

    private static void proofs(Edge on) {
        int[][] due = {{59, 30, 9, 0}, {60, 30, 9, 1}, {61, 30, 9, 1}, {60, 29, 9, 0}, {60, 31, 9, 1}, {61, 29, 9, 0},
            {59, 31, 9, 0}, {60, 30, 10, 0}, {60, 30, 11, 0}, {200, 60, 9, 1}, {200, 60, 10, 0}, {60, 30, 0, 1}};
        for (int[] d : due) {
            MillTown t = new MillTown();
            t.kind(1, d[0], d[1], 10, 0, 0);
            t.wish(1, d[2]);
            t.wish(4, 10);
            on.is(d[0] + " by " + d[1] + " for " + d[2], t.proof(1, 4) ? 1 : 0, d[3]);
        }
        MillTown last = new MillTown();
        last.wish(5, 9);
        last.wish(0, 10);
        on.yes("KINDS 5 and 0", last.proof(5, 0));
        on.no("KINDS 0 and 5", last.proof(0, 5));
        on.no("one and the same", last.proof(5, 5));
    }

    /** Two MILLS, a weaver and a HOME each: 12000 of REST, so FULL is 7 PIECES, HALF 3 for the MILL; PAY is 20. */
    private static MillTown twoMills() {
        MillTown t = Due.smallTown();
        t.mill(4, 100, 5000, -1000);
        t.home(0, 0);
        t.person(1, 30, 5);
        t.work(1, 1, 1, 4);
        t.order(0, 12, 100, 0, 0);
        t.weeks(1);
        return t;
    }

    private static void shared(Edge on, MillTown t, int most, int hungry, int pieces, int... runs) {
        on.is("HUNGRY with " + most, t.shared(most, NONE), hungry);
        on.is("PIECES with " + most, t.shared(most, PIECES), pieces);
        for (int mill = 0; mill < runs.length; mill++) {
            on.is("how MILL " + mill + " runs with " + most, t.shared(most, mill), runs[mill]);
        }
    }

    private static void closedStops(Edge on) {
        for (int coins = 3399; coins <= 3400; coins++) {
            MillTown t = new MillTown();
            t.mill(8, 100, coins, -1000);
            t.shop(0, 0, 0);
            t.home(0, 10000);
            t.person(0, 30, 5);
            t.person(0, 30, 1);
            t.work(0, 1, 0, 4);
            t.work(1, 3, 0, 50);
            t.order(0, 6, 100, 0, 0);
            t.weeks(1);
            if (coins == 3399) {
                shared(on, t, 100, 1, 0, 0);
            } else {
                shared(on, t, 100, 0, 7, 2);
            }
        }
        MillTown struck = twoMills();
        struck.strike(0, true);
        shared(on, struck, 14, 0, 14, 2, 2);
    }

    private static void notMorePieces(Edge on) {
        MillTown t = twoMills();
        shared(on, t, 0, 2, 0, 0, 0);
        shared(on, t, 2, 2, 0, 0, 0);
        shared(on, t, 3, 1, 3, 1, 0);
        shared(on, t, 4, 1, 3, 1, 0);
        shared(on, t, 5, 1, 3, 1, 0);
        shared(on, t, 6, 0, 6, 1, 1);
        shared(on, t, 9, 0, 6, 1, 1);
        shared(on, t, 10, 0, 10, 2, 1);
        shared(on, t, 11, 0, 10, 2, 1);
        shared(on, t, 13, 0, 10, 2, 1);
        shared(on, t, 14, 0, 14, 2, 2);
        shared(on, t, 15, 0, 14, 2, 2);
        shared(on, t, 100000, 0, 14, 2, 2);
    }

    private static void halfOfCan(Edge on) {
        // 6 PIECES and 12000, 6000, 0 of REST: CAN is 7, 7, 6 in the WEEKS that come; half are 3.
        MillTown t = weaving();
        int[][] due = {{0, 0}, {7, 3}, {7, 3}, {6, 3}};
        for (int[] d : due) {
            on.is("FULL at " + t.about(0), t.shared(100000, PIECES), d[0]);
            on.is("HALF at " + t.about(0), t.shared(Math.max(0, d[0] - 1), PIECES), d[1]);
            on.is("STOP at " + t.about(0), t.shared(Math.max(0, d[1] - 1), PIECES), 0);
            t.weeks(1);
        }
        MillTown none = Due.smallTown();
        none.person(0, 30, 1);
        none.work(1, 3, 0, 1);
        shared(on, none, 0, 0, 0, 2);
        shared(on, none, 100000, 0, 0, 2);
    }

    private static void yarnNotAsked(Edge on) {
        MillTown t = new MillTown();
        t.mill(4, 100, 0, -1000);
        t.shop(0, 0, 0);
        t.home(0, 0);
        t.person(0, 30, 5);
        t.work(0, 1, 0, 4);
        Due.enforce(t, "price 20;");
        t.order(0, 6, 100, 0, 0);
        t.weeks(1);
        on.is("no YARN, no COINS", t.millOf(0, 9), 0);
        on.is("REST", t.personOf(0, 7), 17999);
        shared(on, t, 100, 0, 7, 2);
        t.work(0, 1, 0, 4);
        on.is("REST of new WORK", t.personOf(0, 7), 0);
        shared(on, t, 100, 0, 6, 2);
        on.is("REST is as it was", t.personOf(0, 7), 0);
    }

    /** The learner makes one PIECE in 60 hours, the teacher none; PAY is 47: 15 and 32 coins. */
    private static void learnersRest(Edge on) {
        int[][] due = {{3, 0}, {4, 1}, {8, 1}, {9, 2}};
        for (int[] d : due) {
            MillTown t = new MillTown();
            t.mill(8, 50, 5000, -1000);
            t.shop(0, 0, 0);
            t.home(0, 0);
            t.home(0, 0);
            t.person(0, 40, 6);
            t.person(1, 30, 6);
            t.work(0, 1, 0, 1);
            t.work(1, 2, 0, 1);
            Due.enforce(t, "price 47; age 30 to 30 hours 60;");
            t.order(0, 1, 100, 0, 0);
            t.weeks(1);
            on.is("the learner's", t.personOf(1, 8), 15);
            t.price(1, 1, d[0]);
            on.is("HUNGRY with loaves for " + d[0], t.shared(1, NONE), d[1]);
            on.is("the MILL runs FULL", t.shared(1, 0), 2);
        }
    }

    private static void hungry(Edge on) {
        // 7 PIECES of 20 coins: 140 are just 4 loaves of 35.
        int[][] full = {{34, 0}, {35, 0}, {36, 1}};
        for (int[] d : full) {
            MillTown t = weaving();
            t.price(1, 1, d[0]);
            t.price(1, 0, 100);
            t.price(1, 2, 100);
            t.weeks(1);
            on.is("4 loaves of " + d[0], t.shared(100, NONE), d[1]);
        }
        // 60 hours for a coin are just 4 loaves of 15, 2 of 30.
        int[][] day = {{30, 14, 0}, {30, 15, 0}, {30, 16, 1}, {13, 15, 0}, {13, 16, 1}, {12, 30, 0}, {12, 31, 1}};
        for (int[] d : day) {
            MillTown t = new MillTown();
            t.mill(4, 100, 0, 0);
            t.shop(0, 0, 0);
            t.home(0, 10000);
            t.person(0, d[0], 1);
            t.work(0, 3, 0, 1);
            t.price(1, 0, d[1]);
            on.is("AGE " + d[0] + " for loaves of " + d[1], t.shared(0, NONE), d[2]);
        }
        for (int hours = 59; hours <= 61; hours++) {
            MillTown t = new MillTown();
            t.mill(4, 100, 0, 0);
            t.shop(0, 0, 0);
            t.home(0, 10000);
            t.person(0, 30, 1);
            t.work(0, 3, 0, 1);
            Due.enforce(t, "age 30 to 30 hours " + hours + ";");
            t.price(1, 0, 15);
            on.is(hours + " coins for 4 loaves of 15", t.shared(0, NONE), hours < 60 ? 1 : 0);
        }
        MillTown all = new MillTown();
        all.mill(4, 100, 0, 0);
        all.shop(0, 0, 0);
        for (int home = 0; home < 24; home++) {
            all.home(0, 0);
            all.person(home, 30, 1);
        }
        on.is("all HOMES", all.shared(0, NONE), 24);
        all.work(23, 3, 0, 1);
        on.is("all but one", all.shared(0, NONE), 23);
        MillTown gone = new MillTown();
        gone.shop(0, 0, 0);
        gone.home(0, 0);
        gone.home(0, 0);
        on.is("HOMES of nobody", gone.shared(0, NONE), 0);
        gone.person(0, 30, 1);
        on.is("a HOME that earns nothing", gone.shared(0, NONE), 1);
        gone.weeks(3);
        on.is("ahead of the fourth WEEK", gone.shared(0, NONE), 1);
        gone.weeks(1);
        on.is("a HOME that is GONE", gone.shared(0, NONE), 0);
    }

    private static void fewestHungry(Edge on) {
        // 140 coins of a full WEEK, 80 of a half: loaves of 20 and 35 are what either can pay.
        MillTown t = twoMills();
        t.price(1, 1, 20);
        shared(on, t, 7, 0, 6, 1, 1);
        t.price(1, 1, 21);
        shared(on, t, 7, 1, 7, 2, 0);
        shared(on, t, 6, 2, 6, 1, 1);
        shared(on, t, 10, 1, 10, 2, 1);
        t.price(1, 1, 35);
        shared(on, t, 13, 1, 10, 2, 1);
        shared(on, t, 14, 0, 14, 2, 2);
        t.price(1, 1, 36);
        shared(on, t, 13, 2, 10, 2, 1);
        shared(on, t, 14, 2, 14, 2, 2);
        // CAN of 7 and 13, halves of 3 and 6: more PIECES by the later one, with as many HUNGRY.
        MillTown unlike = Due.smallTown();
        unlike.mill(4, 100, 5000, -1000);
        unlike.home(0, 0);
        unlike.person(1, 30, 10);
        unlike.work(1, 1, 1, 4);
        unlike.order(0, 19, 100, 0, 0);
        unlike.weeks(1);
        unlike.price(1, 1, 10000);
        shared(on, unlike, 15, 2, 13, 2, 1);
        shared(on, unlike, 16, 2, 16, 1, 2);
        shared(on, unlike, 17, 2, 16, 1, 2);
        shared(on, unlike, 20, 2, 20, 2, 2);
        shared(on, unlike, 12, 2, 9, 1, 1);
    }

    private static void firstByMills(Edge on) {
        MillTown t = twoMills();
        t.mill(4, 100, 0, 0);
        shared(on, t, 3, 1, 3, 1, 0, 2);
        shared(on, t, 10, 0, 10, 2, 1, 2);
        t.price(1, 1, 21);
        shared(on, t, 7, 1, 7, 2, 0, 2);
        MillTown none = new MillTown();
        for (int mill = 0; mill < 8; mill++) {
            none.mill(1, 100, 0, 0);
        }
        shared(on, none, 0, 0, 0, 2, 2, 2, 2, 2, 2, 2, 2);
        MillTown closed = twoMills();
        closed.person(0, 30, 1);
        closed.work(2, 3, 0, 50);
        closed.person(0, 30, 1);
        closed.work(3, 3, 0, 50);
        closed.order(0, 1, 1, 1, 1);
        closed.order(0, 500, 10, 1, 1);
        closed.price(0, 1, 1);
        closed.weeks(1);
        on.is("MILL 0 is CLOSED", closed.millOf(0, 4), 1);
        on.is("it STOPS", closed.shared(100000, 0), 0);
        on.is("MILL 1 doesn't", closed.shared(100000, 1), 2);
    }

    private static void notCutByWeavers(Edge on) {
        // Of a half the weaver makes (12000 + 60000) / 18000 = 4 PIECES; the MILL's are 3.
        MillTown t = twoMills();
        t.price(1, 1, 20);
        shared(on, t, 6, 0, 6, 1, 1);
        t.price(1, 1, 21);
        shared(on, t, 6, 2, 6, 1, 1);
        // Two weavers of one PIECE each, and none of a half: the MILL's half is 1.
        MillTown two = new MillTown();
        two.mill(8, 50, 5000, -1000);
        two.shop(0, 0, 0);
        two.home(0, 0);
        two.person(0, 30, 6);
        two.person(0, 30, 6);
        two.work(0, 1, 0, 1);
        two.work(1, 1, 0, 1);
        two.order(0, 2, 100, 0, 0);
        two.weeks(1);
        two.strike(0, false);
        shared(on, two, 2, 1, 2, 2);
        shared(on, two, 1, 1, 1, 1);
        shared(on, two, 0, 1, 0, 0);
    }

    private static void loaf(Edge on, MillTown t, int i, int... due) {
        for (int what = 0; what < due.length; what++) {
            on.is("loaf(" + i + ", " + what + ")", t.loaf(i, what), due[what]);
        }
    }

    private static void loafNumbers(Edge on) {
        MillTown t = Due.smallTown();
        t.home(0, 6);
        t.person(1, 12, 1);
        t.home(0, 0);
        t.person(2, 30, 1);
        t.home(0, 12);
        t.person(3, 30, 1);
        t.price(1, 0, 6);
        t.price(1, 1, 100);
        t.order(0, 6, 100, 0, 1);
        on.is("none at first", t.about(9), 0);
        t.weeks(1);
        // HOME 0 has 140: four; HOME 1 one; HOME 2 none; HOME 3 two.
        on.is("LOAVES of WEEK 0", t.about(9), 7);
        int[] homes = {0, 0, 0, 0, 1, 3, 3};
        for (int i = 0; i < 7; i++) {
            loaf(on, t, i, homes[i], 0);
        }
        t.weeks(1);
        // 116 coins: one, and TRUST of 30 for none.
        on.is("LOAVES of WEEK 1", t.about(9), 8);
        loaf(on, t, 6, 3, 0);
        loaf(on, t, 7, 0, 1);
        on.is("none behind it", t.loaf(8, 0), NONE);
        t.weeks(1);
        // 16 coins: two, and TRUST of 30 for the two that lack.
        on.is("LOAVES of WEEK 2", t.about(9), 12);
        loaf(on, t, 8, 0, 2);
        loaf(on, t, 11, 0, 2, NONE, NONE, NONE);
        loavesOnTrust(on);
        MillTown all = new MillTown();
        all.shop(0, 0, 0);
        for (int home = 0; home < 24; home++) {
            all.home(0, 6);
            all.person(home, 30, 1);
        }
        all.weeks(1);
        for (int home = 0; home < 24; home++) {
            loaf(on, all, home, home, 0, NONE, NONE, NONE);
        }
    }

    /** Two HOMES, each at a SHOP of its own, buy two LOAVES each and get one and two more on TRUST: 7. */
    private static void loavesOnTrust(Edge on) {
        MillTown t = new MillTown();
        t.mill(8, 100, 9000, -1000);
        t.shop(60, 400, 0);
        t.shop(120, 400, 0);
        for (int home = 0; home < 2; home++) {
            t.home(home, 0);
            t.person(home, 30, 5);
            t.work(home, 1, 0, 4);
        }
        Due.enforce(t, "price 20;");
        t.order(0, 12, 100, 0, 0);
        t.price(1, 0, 60);
        t.image();
        for (int round = 0; round < 2; round++) {
            t.weeks(1);
            on.is("LOAVES, also on TRUST", t.about(9), 7);
            int[] homes = {0, 0, 0, 1, 1, 1, 1};
            int[] payers = {0, 0, NONE, 1, 1, NONE, NONE};
            for (int i = 0; i < 7; i++) {
                loaf(on, t, i, homes[i], 0, payers[i]);
            }
            on.is("none behind them", t.loaf(7, 0), NONE);
            on.is("COINS of the first SHOP", t.shopOf(0, 0), 0);
            on.is("COINS of the second", t.shopOf(1, 0), 0);
            t.back();
        }
    }

    /** Two day hands in one HOME, of 30 and 40 coins a WEEK, beside a weaver without PAY in another. */
    private static MillTown payers(int loaf) {
        MillTown t = new MillTown();
        t.mill(8, 100, 9000, -1000);
        t.shop(0, 0, 0);
        t.home(0, 0);
        t.home(0, 1000);
        t.person(0, 15, 1);
        t.person(1, 30, 5);
        t.person(0, 16, 1);
        t.work(0, 3, 0, 1);
        t.work(1, 1, 0, 4);
        t.work(2, 4, 0, 1);
        Due.enforce(t, "age 15 to 15 hours 30; age 16 to 16 hours 40; age 30 to 30 hours 60;");
        t.order(0, 6, 100, 0, 0);
        t.price(1, 0, loaf);
        return t;
    }

    private static void coins(Edge on) {
        int[][] due = {{10, 0, 0, 0, 2, 2, 2, 2, -2}, {9, 0, 0, 0, 0, 2, 2, 2, -9}, {29, 0, 0, -9}, {30, 0, 2, -9},
            {31, 0, 2, -9}, {15, 0, 0, 2, 2, -9}, {14, 0, 0, 0, 2, 2, -9}};
        for (int[] d : due) {
            MillTown t = payers(d[0]);
            t.weeks(1);
            for (int i = 1; i < d.length && d[i] >= 0; i++) {
                loaf(on, t, i - 1, 0, 0, d[i], 0, 0);
            }
        }
        // 20 coins that it had lie behind those of all WAGES.
        MillTown had = payers(10);
        had.back();
        had.mill(8, 100, 9000, -1000);
        had.shop(0, 0, 0);
        had.home(0, 20);
        had.person(0, 15, 1);
        had.person(0, 16, 1);
        had.person(0, 30, 5);
        had.work(0, 3, 0, 1);
        had.work(1, 4, 0, 1);
        had.work(2, 1, 0, 4);
        Due.enforce(had, "age 15 to 15 hours 30; age 16 to 16 hours 40; age 30 to 30 hours 60;");
        had.order(0, 6, 100, 0, 0);
        had.price(1, 0, 10);
        had.weeks(1);
        int[] lead = {0, 0, 0, 1, 1, 1, 1, NONE, NONE};
        for (int i = 0; i < lead.length; i++) {
            loaf(on, had, i, 0, 0, lead[i]);
        }
        MillTown one = payers(70);
        one.weeks(1);
        loaf(on, one, 0, 0, 0, 0, 0, 0);
        loaf(on, one, 1, 1, 0, NONE, NONE, NONE);
    }

    private static void leadsToNone(Edge on) {
        // 10 coins of LEVY each: 20 and 30 are left, 5 more come behind them.
        MillTown t = payers(10);
        t.fund(0, 10, 0);
        t.weeks(1);
        int[] due = {0, 0, 2, 2, 2};
        for (int i = 0; i < due.length; i++) {
            loaf(on, t, i, 0, 0, due[i], 0, 0);
        }
        loaf(on, t, 5, 1, 0, NONE, NONE, NONE);
        int[][] levies = {{29, 0}, {30, 2}};
        for (int[] d : levies) {
            MillTown levied = payers(1);
            levied.fund(0, d[0], 0);
            levied.weeks(1);
            loaf(on, levied, 0, 0, 0, d[1]);
            loaf(on, levied, 1, 0, 0, 2);
        }
        // Coins that it had lead to none; so does a loaf on TRUST.
        MillTown own = Due.smallTown();
        own.back();
        own.shop(1000, 400, 0);
        own.mill(8, 100, 9000, -1000);
        own.home(0, 30);
        own.person(0, 30, 5);
        own.work(0, 1, 0, 4);
        Due.enforce(own, "price 5;");
        own.order(0, 6, 100, 0, 0);
        own.price(1, 0, 20);
        own.weeks(1);
        // 30 and 30 coins: three loaves, at coins 0, 20 and 40; one on TRUST.
        loaf(on, own, 0, 0, 0, 0, 0, 0);
        loaf(on, own, 1, 0, 0, 0, 0, 0);
        loaf(on, own, 2, 0, 0, NONE, NONE, NONE);
        loaf(on, own, 3, 0, 0, NONE, NONE, NONE);
        on.is("no more", own.loaf(4, 0), NONE);
        on.is("DEBT", own.homeOf(0, 1), 20);
        // On TRUST to none, also if the coin would lie in WAGES: 119 coins, loaves of 60 and 59 of them left.
        MillTown trust = Due.smallTown();
        trust.back();
        trust.shop(1000, 400, 0);
        trust.mill(8, 100, 9000, -1000);
        trust.home(0, 0);
        trust.person(0, 30, 5);
        trust.work(0, 1, 0, 4);
        Due.enforce(trust, "price 20;");
        trust.order(0, 6, 100, 0, 0);
        trust.price(1, 0, 61);
        trust.weeks(1);
        loaf(on, trust, 0, 0, 0, 0, 0, 0);
        loaf(on, trust, 1, 0, 0, NONE, NONE, NONE);
        on.is("no more", trust.loaf(2, 0), NONE);
    }

    private static void sheetSums(Edge on) {
        MillTown t = payers(1);
        t.mill(1, 100, 0, 0);
        t.person(1, 40, 1);
        t.work(3, 3, 1, 1);
        t.fund(0, 10, 0);
        t.weeks(1);
        t.sheet(0);
        on.is("LEVY off", t.onSheet(0, 0), 20 + 30);
        on.is("nothing was paid", t.onSheet(0, 1), 0);
        on.is("at the other MILL", t.onSheet(1, 1), 0);
        t.strike(1, true);
        t.strike(0, true);
        t.fund(0, 0, 7);
        t.weeks(1);
        t.sheet(1);
        // 20 coins: two are relieved by numbers, the third isn't.
        on.is("RELIEF, too", t.onSheet(0, 0), 7);
        on.is("RELIEF, too", t.onSheet(0, 1), 7);
        on.is("none is left", t.onSheet(1, 1), 0);
        t.fund(100, 0, 7);
        t.weeks(1);
        t.sheet(2);
        on.is("both", t.onSheet(0, 0), 14);
        on.is("at the other MILL", t.onSheet(1, 1), 7);
        on.is("at no place else", t.onSheet(1, 0), 0);
    }

    private static MillTown sheeted() {
        MillTown t = weaving();
        t.weeks(1);
        t.sheet(0);
        return t;
    }

    private static void masks(Edge on) {
        int[] masks = {1, 2, 3, 120, -1, Integer.MIN_VALUE, Integer.MAX_VALUE};
        for (int mask : masks) {
            MillTown t = sheeted();
            on.yes("mask " + mask, t.alter(0, 0, mask));
            on.is("120 by " + mask, t.onSheet(0, 0), 120 ^ mask);
            on.is("others by " + mask, t.check(0), 1);
            on.yes("mask " + mask + " again", t.alter(0, 0, mask));
            on.is("120 as it was", t.onSheet(0, 0), 120);
            on.is("none by " + mask + " twice", t.check(0), 0);
        }
        MillTown t = sheeted();
        t.alter(0, 0, 5);
        t.alter(0, 0, 6);
        on.is("5 and 6 are 3", t.onSheet(0, 0), 120 ^ 3);
        t.alter(0, 0, 3);
        on.is("and 3 none", t.check(0), 0);
    }

    private static void others(Edge on) {
        int[][] places = {{0, 0}, {0, 23}, {7, 0}, {7, 23}, {3, 11}};
        for (int[] p : places) {
            MillTown t = sheeted();
            t.alter(p[0], p[1], 1);
            on.is("one is other", t.check(0), 1);
            on.is("its MILL", t.check(1), p[0]);
            on.is("its HOME", t.check(2), p[1]);
        }
        MillTown t = sheeted();
        int[][] due = {{0, NONE}, {1, 0}, {2, NONE}, {2, NONE}};
        for (int altered = 0; altered <= 3; altered++) {
            on.is(altered + " are other", t.check(0), due[altered][0]);
            on.is("the MILL of " + altered, t.check(1), due[altered][1]);
            on.is("the HOME of " + altered, t.check(2), due[altered][1]);
            t.alter(altered, altered, 9);
        }
    }

    private static void allAgain(Edge on) {
        MillTown t = weaving();
        t.weeks(2);
        t.kind(2, 100, 40, 20, 5, 7);
        t.price(1, 5, 77);
        t.mean(0, 900);
        t.terms(3, 5000);
        t.fund(50, 5, 6);
        t.wish(2, 44);
        t.offer(0, 4);
        t.image();
        int[] was = Edge.seen(t);
        t.kind(2, 10, 20, 1, 0, 0);
        t.price(1, 5, 1);
        t.mean(0, 1);
        t.terms(0, 1);
        t.fund(1000, 0, 0);
        t.wish(2, NONE);
        t.offer(0, 8);
        t.offer(1, 9);
        t.mill(1, 100, 0, 0);
        t.shop(0, 0, 0);
        t.home(0, 0);
        t.person(1, 10, 1);
        t.work(0, 3, 0, 1);
        Due.enforce(t, "");
        t.order(1, 5, 5, 2, 3);
        t.strike(0, true);
        t.weeks(5);
        t.back();
        on.same("BACK", was, Edge.seen(t));
        t.offer(1, 4);
        on.is("the hands' OFFER", t.meet(), 4);
    }

    private static void triedRefused(Edge on) {
        MillTown t = weaving();
        int[][] others = {{-2, NONE, 1, 0}, {1, NONE, 1, 0}, {0, -2, 1, 0}, {0, 1, 1, 0}, {NONE, 1, 1, 0}, {NONE, -2, 1, 0},
            {0, NONE, 0, 0}, {0, NONE, 31, 0}, {0, NONE, 1, 7}, {0, NONE, 1, -1}, {0, NONE, -1, 0}};
        for (int[] o : others) {
            on.none(t, "tried" + java.util.Arrays.toString(o), () -> t.tried(o[0], o[1], o[2], o[3]));
        }
        on.unchanged(t, "tried(0, 0, 1, 0)", () -> t.tried(0, 0, 1, 0), 120);
        on.unchanged(t, "tried(0, 0, 1, 6)", () -> t.tried(0, 0, 1, 6), 0);
        MillTown late = last(30);
        on.yes("30 WEEKS to 400", late.tried(NONE, NONE, 30, 2) > 0);
        on.none(late, "31 WEEKS", () -> late.tried(NONE, NONE, 31, 2));
        late.weeks(1);
        on.yes("29 WEEKS to 400", late.tried(NONE, NONE, 29, 2) > 0);
        on.none(late, "30 WEEKS to 401", () -> late.tried(NONE, NONE, 30, 2));
        late.weeks(28);
        on.yes("1 WEEK to 400", late.tried(NONE, NONE, 1, 2) >= 0);
        on.none(late, "2 WEEKS to 401", () -> late.tried(NONE, NONE, 2, 2));
        late.weeks(1);
        on.none(late, "1 WEEK to 401", () -> late.tried(NONE, NONE, 1, 2));
    }

    private static void inPlace(Edge on) {
        MillTown t = new MillTown();
        t.offer(0, 9);
        t.offer(0, 3);
        t.offer(1, 1);
        t.offer(1, 7);
        on.is("3 and 7", t.meet(), 5);
        t.offer(0, 3);
        t.offer(0, 8);
        t.offer(1, 7);
        on.is("8 and 7", t.meet(), NONE);
        t.offer(0, 0);
        on.is("0 and 7", t.meet(), 3);
    }

    private static void offerRefused(Edge on) {
        int[][] others = {{-1, 0}, {2, 0}, {0, -1}, {0, 1001}, {1, -1}, {1, 1001}};
        for (int[] o : others) {
            MillTown t = new MillTown();
            t.offer(0, 6);
            t.offer(1, 8);
            on.refused(t, "offer" + java.util.Arrays.toString(o), () -> t.offer(o[0], o[1]));
            on.is("6 and 8 still", t.meet(), 7);
        }
    }

    private static void dontMeet(Edge on) {
        on.is("none", new MillTown().meet(), NONE);
        on.is("4 and 5", meeting(4, 5), 4);
        on.is("5 and 5", meeting(5, 5), 5);
        on.is("6 and 5", meeting(6, 5), NONE);
        MillTown hands = new MillTown();
        hands.offer(0, 0);
        on.is("the masters' lacks", hands.meet(), NONE);
        MillTown masters = new MillTown();
        masters.offer(1, 1000);
        on.is("the hands' lacks", masters.meet(), NONE);
    }

    private static void wishRefused(Edge on) {
        MillTown t = new MillTown();
        t.wish(0, 7);
        int[][] others = {{-1, 5}, {6, 5}, {0, -2}, {0, 10001}, {-1, NONE}, {6, NONE}};
        for (int[] o : others) {
            on.refused(t, "wish" + java.util.Arrays.toString(o), () -> t.wish(o[0], o[1]));
        }
        on.yes("none of KIND 5, which has none", t.wish(5, NONE));
        on.yes("wish(5, 9)", t.wish(5, 9));
        on.is("two WISHES", t.made(8, 0, 0, 3), 2);
        on.yes("none", t.wish(5, NONE));
        on.is("one WISH", t.made(8, 0, 0, 3), 0);
        on.yes("none", t.wish(0, NONE));
        on.is("no WISH", t.made(8, 0, 0, 3), NONE);
    }

    private static void oldRange(Edge on) {
        MillTown t = new MillTown();
        t.wish(0, 20);
        on.range("old BASE", 0, 40, v -> t.made(v, 0, 0, 3) == 0);
        on.range("old A", 0, 40, v -> t.made(0, v, 0, 3) == 0);
        on.range("old B", 0, 40, v -> t.made(0, 0, v, 3) == 0);
    }

    private static void madeRefused(Edge on) {
        MillTown t = new MillTown();
        on.none(t, "without WISHES", () -> t.made(0, 0, 0, 0));
        t.wish(5, 20);
        int[][] others = {{-1, 0, 0, 0}, {41, 0, 0, 0}, {0, -1, 0, 0}, {0, 41, 0, 0}, {0, 0, -1, 0}, {0, 0, 41, 0},
            {0, 0, 0, -1}, {0, 0, 0, 4}};
        for (int[] o : others) {
            on.none(t, "made" + java.util.Arrays.toString(o), () -> t.made(o[0], o[1], o[2], o[3]));
        }
        on.unchanged(t, "made(20, 0, 0, 0)", () -> t.made(20, 0, 0, 0), 20);
        on.unchanged(t, "made(20, 0, 0, 3)", () -> t.made(20, 0, 0, 3), 0);
        t.wish(5, NONE);
        on.none(t, "without WISHES again", () -> t.made(20, 0, 0, 0));
    }

    private static void proofRefused(Edge on) {
        MillTown t = new MillTown();
        t.wish(0, 9);
        t.wish(5, 10);
        on.unchanged(t, "proof(0, 5)", () -> t.proof(0, 5) ? 1 : 0, 1);
        int[][] others = {{-1, 5}, {6, 5}, {0, -1}, {0, 6}, {1, 5}, {0, 1}, {1, 2}, {5, 0}, {Integer.MIN_VALUE, 5},
            {0, Integer.MAX_VALUE}};
        for (int[] o : others) {
            on.refused(t, "proof" + java.util.Arrays.toString(o), () -> t.proof(o[0], o[1]));
        }
    }

    private static void sharedWhat(Edge on) {
        MillTown t = twoMills();
        on.is("-3", t.shared(10, -3), NONE);
        on.is("-2", t.shared(10, PIECES), 10);
        on.is("NONE", t.shared(10, NONE), 0);
        on.is("MILL 0", t.shared(10, 0), 2);
        on.is("MILL 1", t.shared(10, 1), 1);
        on.is("MILL 2", t.shared(10, 2), NONE);
        MillTown all = new MillTown();
        for (int mill = 0; mill < 8; mill++) {
            all.mill(1, 100, 0, 0);
            on.is("the last MILL", all.shared(0, mill), 2);
            on.is("none behind it", all.shared(0, mill + 1), NONE);
        }
    }

    private static void sharedRefused(Edge on) {
        MillTown t = twoMills();
        int[][] others = {{-1, NONE}, {100001, NONE}, {5, -3}, {5, 2}, {-1, 0}, {100001, PIECES}, {5, Integer.MAX_VALUE},
            {Integer.MIN_VALUE, 0}};
        for (int[] o : others) {
            on.none(t, "shared" + java.util.Arrays.toString(o), () -> t.shared(o[0], o[1]));
        }
        on.unchanged(t, "shared(5, NONE)", () -> t.shared(5, NONE), 1);
        MillTown late = last(1);
        late.strike(0, true);
        on.is("with the clock at 399", late.shared(5, NONE), 1);
        on.is("its MILL", late.shared(5, 0), 2);
        late.weeks(1);
        on.none(late, "HUNGRY with the clock at 400", () -> late.shared(5, NONE));
        on.none(late, "PIECES with the clock at 400", () -> late.shared(5, PIECES));
        on.none(late, "a MILL with the clock at 400", () -> late.shared(5, 0));
    }

    private static void loafFacts(Edge on) {
        MillTown t = payers(10);
        t.weeks(1);
        loaf(on, t, 0, 0, 0, 0, 0, 0);
        t.work(0, 0, 0, 0);
        t.mill(1, 100, 0, 0);
        t.work(2, 4, 1, 1);
        loaf(on, t, 0, 0, 0, 0, 0, 0);
        loaf(on, t, 3, 0, 0, 2, 0, 0);
        t.strike(1, true);
        t.fund(100, 0, 12);
        t.price(1, 1, 12);
        t.weeks(1);
        // Of RELIEF: the MILL that is STRUCK, and no ORDER. Loaves 0 to 6 are of HOME 0, 7 to 10 of HOME 1.
        int first = t.about(9) - 4 - (t.homeOf(0, 3) - t.homeOf(0, 6));
        loaf(on, t, first, 0, 1, 2, 1, NONE);
        loaf(on, t, t.about(9) - 1, 1, 1, NONE, NONE, NONE);
    }

    private static void loafRefused(Edge on) {
        MillTown none = new MillTown();
        on.none(none, "ahead of any", () -> none.loaf(0, 0));
        MillTown t = payers(10);
        t.weeks(1);
        int count = t.about(9);
        int[][] others = {{-1, 0}, {count, 0}, {0, -1}, {0, 5}, {count - 1, 5}, {Integer.MAX_VALUE, 1}, {Integer.MIN_VALUE, 1}};
        for (int[] o : others) {
            on.none(t, "loaf" + java.util.Arrays.toString(o), () -> t.loaf(o[0], o[1]));
        }
        on.unchanged(t, "the first", () -> t.loaf(0, 0), 0);
        on.unchanged(t, "the last", () -> t.loaf(count - 1, 0), 1);
        on.unchanged(t, "its WEEK", () -> t.loaf(count - 1, 1), 0);
        t.back();
        on.none(t, "behind BACK", () -> t.loaf(0, 0));
    }

    private static void sheetRefused(Edge on) {
        MillTown t = weaving();
        on.refused(t, "WEEK 0 isn't over", () -> t.sheet(0));
        t.weeks(2);
        for (int week : new int[] {-1, 2, 3, 399, 400, Integer.MIN_VALUE, Integer.MAX_VALUE}) {
            on.refused(t, "WEEK " + week, () -> t.sheet(week));
        }
        on.is("none was taken", t.onSheet(0, 0), NONE);
        on.yes("WEEK 1", t.sheet(1));
        on.is("it is taken", t.onSheet(0, 0), 140);
        on.refused(t, "WEEK 2", () -> t.sheet(2));
        on.yes("WEEK 0", t.sheet(0));
        on.is("that one is taken", t.onSheet(0, 0), 120);
        for (int n = 0; n < 398; n += 50) {
            t.weeks(Math.min(50, 398 - n));
        }
        on.yes("WEEK 399", t.sheet(399));
        on.refused(t, "WEEK 400", () -> t.sheet(400));
    }

    private static void placesOfSheet(Edge on) {
        MillTown t = sheeted();
        on.range("MILL", 0, 7, v -> t.onSheet(v, 23) == 0);
        on.range("HOME", 0, 23, v -> t.onSheet(7, v) == 0);
        on.range("MILL to alter", 0, 7, v -> t.alter(v, 23, 1));
        on.range("HOME to alter", 0, 23, v -> t.alter(7, v, 1));
    }

    private static void onSheetRefused(Edge on) {
        MillTown t = weaving();
        t.weeks(1);
        on.none(t, "none was taken", () -> t.onSheet(0, 0));
        t.sheet(0);
        int[][] others = {{-1, 0}, {8, 0}, {0, -1}, {0, 24}, {-1, 24}, {Integer.MAX_VALUE, 0}, {0, Integer.MIN_VALUE}};
        for (int[] o : others) {
            on.none(t, "onSheet" + java.util.Arrays.toString(o), () -> t.onSheet(o[0], o[1]));
        }
        on.unchanged(t, "onSheet(0, 0)", () -> t.onSheet(0, 0), 120);
        on.unchanged(t, "onSheet(7, 23)", () -> t.onSheet(7, 23), 0);
    }

    private static void alterRefused(Edge on) {
        MillTown t = weaving();
        t.weeks(1);
        on.refused(t, "none was taken", () -> t.alter(0, 0, 1));
        t.sheet(0);
        on.is("as it was taken", t.onSheet(0, 0), 120);
        int[][] others = {{-1, 0, 1}, {8, 0, 1}, {0, -1, 1}, {0, 24, 1}, {0, 0, 0}, {7, 23, 0}, {1, -24, 1},
            {Integer.MAX_VALUE, 0, 1}, {0, Integer.MIN_VALUE, 1}};
        for (int[] o : others) {
            on.refused(t, "alter" + java.util.Arrays.toString(o), () -> t.alter(o[0], o[1], o[2]));
        }
        on.yes("alter(0, 0, 1)", t.alter(0, 0, 1));
        on.yes("alter(0, 0, -1)", t.alter(0, 0, -1));
        on.is("altered twice", t.onSheet(0, 0), 120 ^ 1 ^ -1);
    }

    private static void checked(Edge on) {
        MillTown t = sheeted();
        int[][] due = {{0, NONE, NONE}, {1, 7, 22}, {2, NONE, NONE}, {2, NONE, NONE}};
        for (int i = 0; i < due.length; i++) {
            for (int what = 0; what < 3; what++) {
                on.is("check(" + what + ") of " + i, t.check(what), due[i][what]);
            }
            t.alter(7, 22 - i, 1);
        }
        t.sheet(0);
        on.is("taken anew", t.check(0), 0);
        t.alter(0, 0, 120);
        on.is("a place of nothing that should have 120", t.check(0), 1);
        on.is("its MILL", t.check(1), 0);
        on.is("its HOME", t.check(2), 0);
    }

    private static void checkRefused(Edge on) {
        MillTown t = weaving();
        on.none(t, "no WEEK is over", () -> t.check(0));
        t.weeks(1);
        on.none(t, "none was taken", () -> t.check(0));
        on.none(t, "none was taken", () -> t.check(1));
        t.sheet(0);
        on.unchanged(t, "check(0)", () -> t.check(0), 0);
        for (int what : new int[] {-1, 3, Integer.MIN_VALUE, Integer.MAX_VALUE}) {
            on.none(t, "check(" + what + ")", () -> t.check(what));
        }
        t.alter(0, 0, 1);
        on.unchanged(t, "check(0) of one", () -> t.check(0), 1);
        on.unchanged(t, "check(1) of one", () -> t.check(1), 0);
        on.unchanged(t, "check(2) of one", () -> t.check(2), 0);
        on.none(t, "check(-1) of one", () -> t.check(-1));
        on.none(t, "check(3) of one", () -> t.check(3));
        t.back();
        on.none(t, "its WEEK isn't over", () -> t.check(0));
        on.none(t, "its WEEK isn't over", () -> t.check(1));
        on.none(t, "its WEEK isn't over", () -> t.check(2));
        on.is("THE SHEET is as it is", t.onSheet(0, 0), 121);
        t.weeks(1);
        on.is("its WEEK is over, and nobody was there", t.check(0), 1);
        on.is("its MILL", t.check(1), 0);
        t.alter(0, 0, 121);
        on.is("nothing, as in the books", t.check(0), 0);
    }

    private static void imageTold(Edge on) {
        MillTown t = weaving();
        on.is("image at 0", t.image(), 0);
        t.weeks(1);
        int[] was = Edge.seen(t);
        on.unchanged(t, "image at 1", t::image, 1);
        t.weeks(3);
        on.is("BACK", t.back(), 1);
        on.same("BACK", was, Edge.seen(t));
        for (int i = 0; i < 7; i++) {
            t.weeks(52);
        }
        t.weeks(35);
        on.is("image at 400", t.image(), 400);
        on.is("BACK to 400", t.back(), 400);
    }

    private static void backTold(Edge on) {
        MillTown t = weaving();
        t.image();
        t.weeks(2);
        t.sheet(1);
        t.alter(0, 0, 1);
        Due.read(t, "price ;");
        Due.feed(t, "price 7; ");
        t.end(8);
        for (int round = 0; round < 3; round++) {
            on.is("BACK " + round, t.back(), 0);
            on.is("the clock", t.about(0), 0);
            on.is("the tape", t.about(10), 8);
            on.is("the FAULT", t.fault(0), 1);
            on.is("its place", t.fault(1), 6);
            on.is("THE SHEET", t.onSheet(0, 0), 141);
            on.is("its WEEK isn't over", t.check(0), NONE);
            t.weeks(1 + round);
        }
        on.is("its WEEK is over", t.check(0), 1);
        t.back();
        on.is("the tape is read", t.text(), 1);
        t.back();
        on.is("that TEXT is gone", t.about(5), 1);
        on.is("the tape stays empty", t.about(10), 0);
        on.is("FAULT of the latest that was read", t.fault(0), 0);
    }

    private static void clausesOfLatest(Edge on) {
        MillTown t = new MillTown();
        on.is("without a TEXT", t.about(15), NONE);
        Due.read(t, "price ;");
        on.is("with a FAULT", t.about(15), NONE);
        t.text();
        on.is("an empty TEXT", t.about(15), 0);
        Due.read(t, "price 1;");
        on.is("a TEXT of one", t.about(15), 1);
        Due.read(t, "least 1;".repeat(24));
        on.is("a TEXT of 24", t.about(15), 24);
        Due.read(t, "price 1; price 2; price ;");
        on.is("with a FAULT", t.about(15), 24);
        t.image();
        Due.read(t, "price 1; price 2;");
        on.is("a TEXT of two", t.about(15), 2);
        t.back();
        on.is("behind BACK", t.about(15), 24);
        for (int text = 3; text < 20; text++) {
            Due.read(t, "least 1;".repeat(text));
        }
        on.is("the 20th", t.about(15), 19);
    }

    private static void aboutRefused(Edge on) {
        MillTown t = weaving();
        t.terms(3, 500);
        t.fund(5, 6, 7);
        for (int what : new int[] {-1, 16, -2, 17, Integer.MIN_VALUE, Integer.MAX_VALUE}) {
            on.none(t, "about(" + what + ")", () -> t.about(what));
        }
        int[] due = {0, 1, 1, 1, 1, 1, 1, 1, 5, 0, 0, 6, 7, 3, 500, 1};
        for (int what = 0; what < 16; what++) {
            on.is("about(" + what + ")", t.about(what), due[what]);
        }
    }
}
