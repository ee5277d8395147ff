import java.util.Arrays;

/** Sentences that name no edge, of part III of Terms and of promises 19 to 29. */
final class PlainOfWeeks {
    private static final int NONE = MillTown.NONE;

    private PlainOfWeeks() {
    }

    static void all(Edges e) {
        e.of("III", "ORDERS 0 .. 79: a KIND", PlainOfWeeks::kindsOfOrders);
        e.of("III", "FUND: COINS", PlainOfWeeks::fundAtFirst);
        e.of("III", "A WEEK w goes by (all by THE TEXTS as KNOWN in w):", PlainOfWeeks::textsAsKnown);
        e.of("III", "of ORDERS known in w, whose last WEEK isn't over", PlainOfWeeks::knownOrders);
        e.of("III", "GAIN: PRICE less RAIL, less PAY there", PlainOfWeeks::gain);
        e.of("III", "CAN: what all its weavers (PIECE, LEARNER) would make by that KIND with full HOURS, by their REST and"
                + " POINTS.", PlainOfWeeks::can);
        e.of("III", "HOURS of a PERSON", PlainOfWeeks::hoursOfPersons);
        e.of("III", "POINTS: LOOMS * HOURS * SPEED * SKILL.", PlainOfWeeks::points);
        e.of("III", "COST of a KIND: PICKS * WIDTH * (10 + HARD).", PlainOfWeeks::costs);
        e.of("III", "Weavers by numbers", PlainOfWeeks::weaversByNumbers);
        e.of("III", "nor than YARN is there for", PlainOfWeeks::yarnThereFor);
        e.of("III", "WAGES: PIECE: PIECES * PAY", PlainOfWeeks::wagesOfPieces);
        e.of("III", "DAY, HALF: HOURS * n.", PlainOfWeeks::wagesOfHours);
        e.of("III", "The MILL pays them all, and gets PIECES * (PRICE - RAIL).", PlainOfWeeks::millPays);
        e.of("III", "The ORDER has so many fewer.", PlainOfWeeks::soManyFewer);
        e.of("III", "Each PERSON whose MILL is STRUCK", PlainOfWeeks::struckPersons);
        e.of("III", "(what it pays so leaves the town)", PlainOfWeeks::leavesTown);
        e.of("III", "Then on TRUST, one by one", PlainOfWeeks::oneByOne);
        e.of("III", "the SHOP's COINS are less, DEBT more.", PlainOfWeeks::debtMore);
        promises(e);
    }

    private static void promises(Edges e) {
        e.of(20, "RAIL, DEAR: true.", PlainOfWeeks::termsTold);
        e.of(21, "LEVY, RELIEF: true.", PlainOfWeeks::fundTold);
        e.of(22, "A MILL is STRUCK, or not: true.", PlainOfWeeks::strikeTold);
        e.of(24, "Of a MILL: 0 LOOMS, 1 LOOMS that are had, 2 COINS, 3 YARN, 4 CLOSED (1, 0), 5 STRUCK (1, 0)",
                PlainOfWeeks::millAsked);
        e.of(25, "Of a HOME: 0 COINS, 1 DEBT, 2 GONE (1, 0), 3 NEED, 4 PERSONS", PlainOfWeeks::homeAsked);
        e.of(26, "Of a PERSON: 0 HOME, 1 AGE, 2 SKILL, 3 sort of WORK", PlainOfWeeks::personAsked);
        e.of(26, "7 REST", PlainOfWeeks::restAsked);
        e.of(27, "Of a SHOP: 0 COINS", PlainOfWeeks::shopAsked);
        e.of(28, "Of an ORDER: 0 KIND", PlainOfWeeks::orderKindAsked);
        e.of(28, "2 PRICE, 3 from, 4 to.", PlainOfWeeks::orderAsked);
        e.of(29, "EARNED (what 0), HUNGER (1)", PlainOfWeeks::bookAsked);
    }

    /** A MILL of so many LOOMS and coins, a SHOP that trusts nobody, and a HOME with 10000 coins. */
    private static MillTown begun(int looms, int speed, int coins) {
        MillTown t = new MillTown();
        t.mill(looms, speed, coins, -1000);
        t.shop(0, 0, 0);
        t.home(0, 10000);
        return t;
    }

    private static void kindsOfOrders(Edge on) {
        MillTown t = new MillTown();
        for (int kind = 0; kind < 6; kind++) {
            on.is("an ORDER of KIND " + kind, t.order(kind, 1, 1, 0, 0), kind);
        }
        on.are("KIND of ORDER", Edge.facts(6, o -> t.orderOf(o, 0)), 0, 1, 2, 3, 4, 5);
        on.is("an ORDER of KIND -1", t.order(-1, 1, 1, 0, 0), NONE);
        on.is("an ORDER of KIND 6", t.order(6, 1, 1, 0, 0), NONE);
    }

    private static void fundAtFirst(Edge on) {
        MillTown t = begun(4, 100, 5000);
        on.is("COINS of the FUND at first", t.about(8), 0);
        t.person(0, 30, 5);
        t.work(0, 3, 0, 1);
        t.strike(0, true);
        t.fund(7, 0, 5);
        on.is("COINS that came", t.about(8), 7);
        t.weeks(2);
        on.is("COINS that went", t.about(8), 2);
        on.is("WAGES without them", t.personOf(0, 8), 0);
    }

    private static void textsAsKnown(Edge on) {
        MillTown t = Due.smallTown();
        t.person(0, 30, 1);
        t.work(1, 3, 0, 1);
        t.order(0, 500, 100, 0, 399);
        t.force(Due.read(t, "price 30;"), NONE, 2, 399);
        t.force(Due.read(t, "age 0 to 99 hours 70; meals 10;"), NONE, 1, 1);
        t.weeks(4);
        // 60 HOURS: 120000 POINTS, 6 PIECES and 12000 over; and a day hand.
        on.are("EARNED in WEEK", Edge.facts(4, w -> t.book(0, w, 0)), 120 + 60, 140 + 60, 210 + 60, 180 + 60);
        Due.enforce(t, "price 50; age 0 to 99 hours 30;");
        t.weeks(1);
        // 60000 POINTS, and 12000 over from WEEK 3.
        on.is("EARNED by a TEXT told in this WEEK", t.book(0, 4, 0), 4 * 50 + 30);
    }

    private static void knownOrders(Edge on) {
        MillTown t = Due.smallTown();
        t.order(0, 100, 100, 1, 2);
        t.order(0, 100, 90, 2, 3);
        int[] due = {NONE, 0, 0, 1, NONE};
        for (int week = 0; week < due.length; week++) {
            t.weeks(1);
            on.is("the ORDER in WEEK " + week, t.millOf(0, 8), due[week]);
        }
    }

    private static void gain(Edge on) {
        // 100, less 5, less 20, less 10 * 1000 / 400: 50.
        for (int least = 49; least <= 51; least++) {
            MillTown t = new MillTown();
            t.mill(4, 100, 5000, least);
            t.mill(4, 100, 5000, least);
            t.shop(0, 0, 0);
            t.home(0, 0);
            t.person(0, 30, 5);
            t.person(0, 30, 5);
            t.work(0, 1, 0, 4);
            t.work(1, 1, 1, 4);
            t.terms(5, 100000);
            Due.enforce(t, "price 19;");
            t.force(Due.read(t, "price 20;"), 0, 0, 399);
            t.order(0, 100, 100, 0, 0);
            t.order(0, 6, 101, 1, 1);
            t.order(0, 6, 99, 2, 2);
            t.weeks(1);
            on.are("the ORDER at 100, LEAST " + least, Edge.facts(2, m -> t.millOf(m, 8)), least < 51 ? 0 : NONE, 0);
            t.weeks(1);
            on.is("the ORDER at 101, LEAST " + least, t.millOf(0, 8), 1);
            t.weeks(1);
            on.are("the ORDER at 99, LEAST " + least, Edge.facts(2, m -> t.millOf(m, 8)), least < 50 ? 2 : NONE,
                    least == 50 ? 2 : NONE);
        }
    }

    /** A weaver of 120000 POINTS, a LEARNER of 36000, and a day hand. */
    private static MillTown crew() {
        MillTown t = begun(6, 100, 50000);
        int[] skills = {5, 3, 9};
        for (int skill : skills) {
            t.person(0, 30, skill);
        }
        t.work(0, 1, 0, 4);
        t.work(1, 2, 0, 2);
        t.work(2, 3, 0, 6);
        t.kind(1, 30, 30, 10, 0, 0);
        return t;
    }

    private static void can(Edge on) {
        // 6 and 2 PIECES of 18000, 13 and 4 of 9000: FULL for half of them, HALF for one less.
        int[][] due = {{0, 3, 1}, {0, 4, 2}, {1, 8, 1}, {1, 9, 2}};
        for (int[] d : due) {
            MillTown t = crew();
            t.order(d[0], d[1], 100, 0, 0);
            t.weeks(1);
            on.is("how it runs for " + d[1] + " of KIND " + d[0], t.millOf(0, 7), d[2]);
        }
        // With a REST of 12000 they are 7 and 2.
        for (int pieces = 4; pieces <= 5; pieces++) {
            MillTown t = crew();
            t.order(0, 8, 100, 0, 0);
            t.order(0, pieces, 100, 1, 1);
            t.weeks(2);
            on.is("how it runs for " + pieces + " with REST", t.millOf(0, 7), pieces == 4 ? 1 : 2);
        }
        // Full HOURS are asked, also if it runs HALF: 8 are TAKEN, and 4 made.
        MillTown t = crew();
        t.terms(0, 999);
        t.mill(4, 100, 5000, -1000);
        t.person(0, 30, 5);
        t.work(3, 1, 1, 4);
        t.order(0, 10, 100, 0, 0);
        t.weeks(1);
        on.are("PIECES at dear cotton", Edge.facts(2, m -> t.millOf(m, 9)), 3 + 1, 2);
    }

    private static void hoursOfPersons(Edge on) {
        MillTown t = crew();
        t.person(0, 12, 1);
        t.work(3, 4, 0, 2);
        Due.enforce(t, "price 0; age 0 to 12 hours 31; age 30 to 30 hours 60;");
        t.order(0, 8, 100, 0, 0);
        t.order(0, 3, 100, 1, 1);
        int[][] due = {{360, 62}, {180, 30}, {0, 0}};
        for (int week = 0; week < due.length; week++) {
            t.weeks(1);
            on.is("WAGES of the day hand in WEEK " + week, t.personOf(2, 8), due[week][0]);
            on.is("WAGES of the child in WEEK " + week, t.personOf(3, 8), due[week][1]);
        }
    }

    private static void points(Edge on) {
        int[][] crews = {{1, 60, 100, 3}, {2, 50, 150, 7}, {6, 7, 199, 9}, {5, 80, 200, 10}, {3, 60, 101, 10}, {3, 60, 100, 9}};
        for (int[] c : crews) {
            MillTown t = begun(6, c[2], 50000);
            t.person(0, 30, c[3]);
            t.work(0, 1, 0, c[0]);
            Due.enforce(t, "age 0 to 99 hours " + c[1] + ";");
            t.order(0, 500, 100, 0, 0);
            t.weeks(1);
            int points = c[0] * c[1] * c[2] * c[3];
            on.is("PIECES by " + Arrays.toString(c), t.millOf(0, 9), points / 18000);
            on.is("REST by " + Arrays.toString(c), t.personOf(0, 7), points % 18000);
        }
    }

    private static void costs(Edge on) {
        int[][] due = {{60, 30, 0, 40, 0}, {61, 31, 3, 29, 7093}, {200, 60, 9, 3, 36000}, {10, 20, 0, 360, 0},
            {60, 31, 0, 38, 13200}, {60, 30, 1, 36, 7200}};
        for (int[] d : due) {
            MillTown t = begun(6, 200, 50000);
            t.kind(3, d[0], d[1], 1, d[2], 0);
            t.person(0, 30, 10);
            t.work(0, 1, 0, 6);
            t.order(3, 500, 100, 0, 0);
            t.weeks(1);
            on.is("PIECES of 720000 POINTS by " + Arrays.toString(d), t.millOf(0, 9), d[3]);
            on.is("REST by " + Arrays.toString(d), t.personOf(0, 7), d[4]);
        }
    }

    private static void weaversByNumbers(Edge on) {
        MillTown t = begun(12, 100, 50000);
        for (int p = 0; p < 3; p++) {
            t.person(0, 30, 5);
        }
        t.work(2, 1, 0, 4);
        t.work(1, 1, 0, 4);
        t.work(0, 1, 0, 4);
        Due.enforce(t, "price 20;");
        t.order(0, 14, 100, 0, 0);
        t.weeks(1);
        on.are("WAGES: of 14 PIECES", Edge.facts(3, p -> t.personOf(p, 8)), 120, 120, 40);
        on.are("REST", Edge.facts(3, p -> t.personOf(p, 7)), 12000, 12000, 17999);
    }

    private static void yarnThereFor(Edge on) {
        MillTown t = begun(8, 100, 1999);
        t.kind(0, 60, 30, 50, 0, 0);
        for (int p = 0; p < 2; p++) {
            t.person(0, 30, 5);
            t.work(p, 1, 0, 4);
        }
        Due.enforce(t, "price 20;");
        t.order(0, 12, 100, 0, 0);
        t.weeks(1);
        on.are("WAGES: 360 pounds are 7 PIECES", Edge.facts(2, p -> t.personOf(p, 8)), 120, 20);
        on.is("YARN", t.millOf(0, 3), 10);
        on.is("PIECES", t.millOf(0, 9), 7);
    }

    private static void wagesOfPieces(Edge on) {
        for (int pay : new int[] {0, 1, 17, 9999}) {
            MillTown t = begun(4, 100, 100000);
            t.person(0, 30, 5);
            t.work(0, 1, 0, 4);
            Due.enforce(t, "price " + pay + ";");
            t.order(0, 6, 10000, 0, 0);
            t.weeks(1);
            on.is("WAGES of 6 PIECES at " + pay, t.personOf(0, 8), 6 * pay);
        }
    }

    private static void wagesOfHours(Edge on) {
        MillTown t = begun(4, 100, 50000);
        int[] ages = {30, 30, 12, 17};
        for (int age : ages) {
            t.person(0, age, 5);
        }
        t.work(0, 1, 0, 4);
        t.work(1, 3, 0, 7);
        t.work(2, 4, 0, 3);
        t.work(3, 3, 0, 50);
        Due.enforce(t, "age 13 to 99 hours 55; age 0 to 12 hours 31;");
        t.order(0, 6, 100, 0, 0);
        t.order(0, 2, 100, 1, 1);
        t.weeks(1);
        on.are("WAGES", Edge.facts(4, p -> t.personOf(p, 8)), 0, 55 * 7, 31 * 3, 55 * 50);
        t.weeks(1);
        on.are("WAGES of half", Edge.facts(4, p -> t.personOf(p, 8)), 0, 27 * 7, 15 * 3, 27 * 50);
        t.weeks(1);
        on.are("WAGES of none", Edge.facts(4, p -> t.personOf(p, 8)), 0, 0, 0, 0);
    }

    private static void millPays(Edge on) {
        MillTown t = crew();
        Due.enforce(t, "price 10;");
        t.terms(7, 100000);
        t.mill(1, 100, 333, -1000);
        t.order(0, 8, 95, 0, 0);
        t.weeks(1);
        on.is("COINS: a bale, WAGES, PIECES", t.millOf(0, 2), 50000 - 1000 - (60 + 20 + 360) + 8 * (95 - 7));
        on.is("COINS of the other", t.millOf(1, 2), 333);
        on.are("WAGES", Edge.facts(3, p -> t.personOf(p, 8)), 60 + 14, 6, 360);
        MillTown loss = Due.smallTown();
        loss.terms(100, 100000);
        loss.order(0, 6, 90, 0, 0);
        loss.weeks(1);
        on.is("COINS behind a loss", loss.millOf(0, 2), 5000 - 1000 - 120 - 6 * 10);
    }

    /** 6 PIECES, 7 with what is over, the 2 that are left, and 7 with a REST of 17999. */
    private static void soManyFewer(Edge on) {
        MillTown t = Due.smallTown();
        t.order(0, 30, 80, 0, 399);
        t.order(0, 15, 100, 0, 399);
        int[][] left = {{30, 9}, {30, 2}, {30, 0}, {23, 0}};
        for (int week = 0; week < left.length; week++) {
            t.weeks(1);
            on.are("PIECES left behind WEEK " + week, Edge.facts(2, o -> t.orderOf(o, 1)), left[week]);
        }
    }

    private static void struckPersons(Edge on) {
        MillTown t = begun(12, 100, 5000);
        t.mill(4, 100, 5000, -1000);
        int[][] works = {{1, 0, 4}, {2, 0, 1}, {3, 0, 5}, {4, 0, 5}, {3, 1, 5}, {0, 0, 0}};
        for (int p = 0; p < works.length; p++) {
            t.person(0, 15, 5);
            t.work(p, works[p][0], works[p][1], works[p][2]);
        }
        t.fund(1000, 0, 11);
        t.strike(0, true);
        t.weeks(1);
        on.are("WAGES", Edge.facts(6, p -> t.personOf(p, 8)), 11, 11, 11, 11, 0, 0);
        on.is("COINS of the FUND", t.about(8), 1000 - 44);
        t.strike(0, false);
        t.weeks(1);
        on.are("WAGES when it isn't any more", Edge.facts(6, p -> t.personOf(p, 8)), 0, 0, 0, 0, 0, 0);
    }

    private static void leavesTown(Edge on) {
        MillTown t = begun(4, 100, 5000);
        t.shop(50, 400, 0);
        t.home(1, 100);
        t.person(1, 30, 1);
        t.mean(1, 7);
        t.weeks(1);
        on.is("COINS of the HOME", t.homeOf(1, 0), 100 - 28);
        on.are("COINS of SHOPS", Edge.facts(2, s -> t.shopOf(s, 0)), 0, 50);
        on.is("COINS of the MILL", t.millOf(0, 2), 5000);
        on.is("COINS of the FUND", t.about(8), 0);
    }

    /** A HOME that earns 60 in a WEEK, NEEDS 8 loaves at 10 and has a SHOP with so many coins. */
    private static MillTown trusted(int coins) {
        MillTown t = new MillTown();
        t.mill(4, 100, 100000, -1000);
        t.shop(coins, 400, 0);
        t.home(0, 0);
        t.shop(0, 0, 0);
        t.home(1, 10000);
        t.person(0, 30, 1);
        t.person(0, 30, 1);
        t.person(1, 30, 5);
        t.work(0, 3, 0, 1);
        t.work(2, 1, 0, 4);
        t.mean(1, 10);
        t.order(0, 500, 100, 0, 399);
        return t;
    }

    private static void oneByOne(Edge on) {
        int[][] due = {{0, 2, 0}, {9, 2, 9}, {10, 1, 0}, {19, 1, 9}, {20, 0, 0}, {21, 0, 1}, {50, 0, 30}};
        for (int[] d : due) {
            MillTown t = trusted(d[0]);
            t.weeks(1);
            on.is("HUNGER with a SHOP of " + d[0], t.homeOf(0, 6), d[1]);
            on.is("COINS of that SHOP then", t.shopOf(0, 0), d[2]);
        }
    }

    private static void debtMore(Edge on) {
        MillTown t = trusted(1000);
        int[][] due = {{980, 20}, {960, 40}, {940, 60}};
        for (int week = 0; week < due.length; week++) {
            t.weeks(1);
            on.is("COINS of the SHOP behind WEEK " + week, t.shopOf(0, 0), due[week][0]);
            on.is("DEBT", t.homeOf(0, 1), due[week][1]);
            on.is("DEBTS there", t.shopOf(0, 1), due[week][1]);
            on.is("COINS of the HOME", t.homeOf(0, 0), 0);
            on.is("HUNGER", t.homeOf(0, 6), 0);
        }
    }

    private static void termsTold(Edge on) {
        MillTown t = Due.smallTown();
        on.yes("terms", t.terms(3, 999));
        on.is("RAIL", t.about(13), 3);
        on.is("DEAR", t.about(14), 999);
        t.order(0, 6, 100, 0, 0);
        t.weeks(1);
        on.is("it runs HALF at 1000", t.millOf(0, 7), 1);
        on.is("COINS", t.millOf(0, 2), 5000 - 1000 - 60 + 3 * 97);
        on.yes("told anew", t.terms(0, 1000));
        on.is("RAIL then", t.about(13), 0);
        on.is("DEAR then", t.about(14), 1000);
    }

    private static void fundTold(Edge on) {
        MillTown t = Due.smallTown();
        on.yes("fund", t.fund(30, 4, 9));
        on.are("about FUND, LEVY, RELIEF", new int[] {t.about(8), t.about(11), t.about(12)}, 30, 4, 9);
        t.order(0, 6, 100, 0, 0);
        t.weeks(1);
        on.is("the FUND with a LEVY", t.about(8), 34);
        on.yes("told anew", t.fund(5, 0, 8));
        on.are("about FUND, LEVY, RELIEF", new int[] {t.about(8), t.about(11), t.about(12)}, 39, 0, 8);
        t.strike(0, true);
        t.weeks(1);
        on.is("the FUND without a RELIEF", t.about(8), 31);
    }

    private static void strikeTold(Edge on) {
        MillTown t = Due.smallTown();
        t.mill(4, 100, 5000, -1000);
        on.yes("STRUCK", t.strike(0, true));
        on.are("STRUCK", Edge.facts(2, m -> t.millOf(m, 5)), 1, 0);
        on.yes("the other", t.strike(1, true));
        on.are("STRUCK", Edge.facts(2, m -> t.millOf(m, 5)), 1, 1);
        on.yes("not any more", t.strike(0, false));
        on.are("STRUCK", Edge.facts(2, m -> t.millOf(m, 5)), 0, 1);
        on.yes("and again", t.strike(0, true));
        on.are("STRUCK", Edge.facts(2, m -> t.millOf(m, 5)), 1, 1);
    }

    private static void millAsked(Edge on) {
        MillTown t = Due.smallTown();
        t.mill(9, 50, 77, 0);
        on.are("of a MILL", Edge.facts(6, what -> t.millOf(0, what)), 4, 4, 5000, 0, 0, 0);
        t.order(0, 6, 100, 0, 0);
        t.weeks(1);
        t.strike(0, true);
        on.are("behind a WEEK", Edge.facts(6, what -> t.millOf(0, what)), 4, 4, 4480, 300, 0, 1);
        on.are("of the other", Edge.facts(6, what -> t.millOf(1, what)), 9, 0, 77, 0, 0, 0);
        t.work(0, 1, 0, 3);
        on.is("LOOMS that are had", t.millOf(0, 1), 3);
        t.work(0, 0, 0, 0);
        on.is("LOOMS that are had then", t.millOf(0, 1), 0);
        MillTown closed = begun(4, 100, 1000);
        closed.person(0, 30, 5);
        closed.work(0, 1, 0, 4);
        Due.enforce(closed, "price 1000;");
        closed.order(0, 6, 100, 0, 0);
        closed.weeks(1);
        on.are("of one that is CLOSED", Edge.facts(6, what -> closed.millOf(0, what)), 4, 4, 1000 - 1000 - 6000 + 600, 300, 1, 0);
    }

    private static void homeAsked(Edge on) {
        MillTown t = trusted(1000);
        t.person(0, 12, 1);
        on.are("of a HOME", Edge.facts(5, what -> t.homeOf(0, what)), 0, 0, 0, 10, 3);
        t.weeks(1);
        on.are("behind a WEEK", Edge.facts(5, what -> t.homeOf(0, what)), 0, 40, 0, 10, 3);
        on.are("of the other", Edge.facts(5, what -> t.homeOf(1, what)), 9960, 0, 0, 4, 1);
        MillTown gone = begun(4, 100, 0);
        gone.home(0, 3);
        gone.person(1, 13, 1);
        gone.weeks(4);
        on.are("of one that is GONE", Edge.facts(5, what -> gone.homeOf(1, what)), 3, 0, 1, 4, 1);
    }

    private static void personAsked(Edge on) {
        MillTown t = begun(12, 100, 5000);
        t.home(0, 0);
        for (int p = 0; p < 5; p++) {
            t.person(p % 2, 13 + p, 10 - p);
        }
        t.work(0, 1, 0, 4);
        t.work(1, 2, 0, 2);
        t.work(2, 3, 0, 9);
        t.work(3, 4, 0, 8);
        int[][] due = {{0, 13, 10, 1}, {1, 14, 9, 2}, {0, 15, 8, 3}, {1, 16, 7, 4}, {0, 17, 6, 0}};
        for (int p = 0; p < due.length; p++) {
            int person = p;
            on.are("of PERSON " + p, Edge.facts(4, what -> t.personOf(person, what)), due[p]);
        }
    }

    private static void restAsked(Edge on) {
        MillTown t = Due.smallTown();
        t.order(0, 500, 100, 0, 399);
        int[] due = {12000, 6000, 0, 12000};
        on.is("REST at first", t.personOf(0, 7), 0);
        for (int week = 0; week < due.length; week++) {
            t.weeks(1);
            on.is("REST behind WEEK " + week, t.personOf(0, 7), due[week]);
        }
        t.strike(0, true);
        t.weeks(1);
        on.is("REST behind a WEEK without WORK", t.personOf(0, 7), 12000);
    }

    private static void shopAsked(Edge on) {
        MillTown t = trusted(1000);
        t.shop(77, 0, 30);
        on.are("COINS", Edge.facts(3, s -> t.shopOf(s, 0)), 1000, 0, 77);
        t.weeks(3);
        on.are("COINS behind 3 WEEKS", Edge.facts(3, s -> t.shopOf(s, 0)), 940, 0, -13);
    }

    private static void orderKindAsked(Edge on) {
        MillTown t = new MillTown();
        t.order(4, 10, 100, 0, 5);
        t.order(2, 20, 100, 0, 5);
        on.are("KIND", Edge.facts(3, o -> t.orderOf(o, 0)), 4, 2, NONE);
    }

    private static void orderAsked(Edge on) {
        MillTown t = Due.smallTown();
        t.order(0, 10, 101, 0, 6);
        t.order(0, 20, 102, 3, 7);
        t.weeks(2);
        on.are("of the first", Edge.facts(5, what -> t.orderOf(0, what)), 0, 0, 101, 0, 6);
        on.are("of the second", Edge.facts(5, what -> t.orderOf(1, what)), 0, 20, 102, 3, 7);
    }

    private static void bookAsked(Edge on) {
        MillTown t = trusted(10);
        t.weeks(2);
        t.work(0, 0, 0, 0);
        t.weeks(1);
        on.are("EARNED", Edge.facts(3, w -> t.book(0, w, 0)), 60, 60, 0);
        on.are("HUNGER", Edge.facts(3, w -> t.book(0, w, 1)), 1, 2, 8);
        on.are("EARNED of the other", Edge.facts(3, w -> t.book(1, w, 0)), 0, 0, 0);
        on.are("HUNGER of the other", Edge.facts(3, w -> t.book(1, w, 1)), 0, 0, 0);
    }
}
