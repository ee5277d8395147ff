/** Sentences that name no edge, of parts I and II of Terms and of promises 1 to 18. */
final class PlainOfTown {
    private static final int NONE = MillTown.NONE;

    private PlainOfTown() {
    }

    static void all(Edges e) {
        e.of("I", "(not used by ORDERS: what a PIECE of KIND k is worth)", PlainOfTown::worth);
        e.of("I", "PRICE of a WHAT in a WEEK: what was told for it", PlainOfTown::pricesTold);
        e.of("I", "CLOSED, STRUCK or neither", PlainOfTown::neither);
        e.of("I", "a SHOP, COINS, a DEBT there; GONE or not.", PlainOfTown::debtsThere);
        e.of("I", "a HOME, an AGE (5 .. 80), a SKILL (1 .. 10)", PlainOfTown::homesOfPersons);
        e.of("I", "FAILED or not.", PlainOfTown::failedOrNot);
        e.of("I", "2 LEARNER: under a PERSON with PIECE", PlainOfTown::underPiece);
        e.of("II", "CLAUSE: price SUM ; or extra NUMBER add SUM ; or extra NUMBER take SUM ;", PlainOfTown::countedClauses);
        e.of("II", "or when EITHER add SUM ; or when EITHER take SUM ;", PlainOfTown::whens);
        e.of("II", "ASK: not ASK, or", PlainOfTown::nots);
        e.of("II", "ONE: NUMBER, one of picks width yarn hard, ( SUM ), - ONE,", PlainOfTown::ones);
        e.of("II", "A SUM is worked in FRACTIONS", PlainOfTown::fractions);
        e.of("II", "THE TEXT for something at a MILL in a WEEK as KNOWN in a WEEK: of FORCES that hold there then",
                PlainOfTown::theText);
        e.of("II", "PAY of a PIECE of a KIND: by THE TEXT for price: its price SUMS together", PlainOfTown::pricesTogether);
        e.of("II", "one behind the other: their SUMS more or less", PlainOfTown::moreOrLess);
        e.of("II", "HOURS of an AGE: by THE TEXT for age", PlainOfTown::hoursByText);
        promises(e);
    }

    private static void promises(Edges e) {
        e.of(2, "A KIND: true.", PlainOfTown::kindTold);
        e.of(3, "A price of THE WIRE (v NONE: no number): true.", PlainOfTown::priceTold);
        e.of(4, "A MEAN: true.", PlainOfTown::meanTold);
        e.of(5, "PRICE of a WHAT (0 .. 7) in a WEEK.", PlainOfTown::priceAsked);
        e.of(6, "A MILL: its number", PlainOfTown::millTold);
        e.of(7, "A SHOP: its number", PlainOfTown::shopTold);
        e.of(8, "A HOME: its number", PlainOfTown::homeTold);
        e.of(9, "A PERSON: its number.", PlainOfTown::personTold);
        e.of(10, "WORK of a PERSON from now on", PlainOfTown::workTold);
        e.of(15, "A FORCE: its number.", PlainOfTown::forceTold);
        e.of(16, "PAY of a PIECE at a MILL in a WEEK as KNOWN in a WEEK.", PlainOfTown::payAsked);
        e.of(18, "at a MILL in a WEEK as KNOWN in a WEEK.", PlainOfTown::hoursAsked);
    }

    /** PAY by a TEXT of a KIND with PICKS 60, WIDTH 30, YARN 10, HARD 4 and the EXTRA 3. */
    private static void pay(Edge on, String text, int due) {
        MillTown t = new MillTown();
        t.mill(1, 50, 0, 0);
        t.kind(0, 60, 30, 10, 4, 8);
        on.is("FORCE of " + text, Due.enforce(t, text), 0);
        on.is("PAY by " + text, t.pay(0, 0, 0, 0), due);
    }

    private static void worth(Edge on) {
        for (int worth : new int[] {1, 60, 90000}) {
            MillTown t = Due.smallTown();
            for (int what = 2; what < 8; what++) {
                t.price(what, 0, worth + what);
                t.mean(what, worth + what);
            }
            t.order(0, 6, 100, 0, 0);
            t.order(1, 6, 99, 0, 0);
            t.weeks(1);
            on.is("the ORDER, with PIECES worth " + worth, t.millOf(0, 8), 0);
            on.is("COINS, with PIECES worth " + worth, t.millOf(0, 2), 5000 - 1000 + 600 - 120);
            on.is("WAGES, with PIECES worth " + worth, t.personOf(0, 8), 120);
        }
    }

    private static void pricesTold(Edge on) {
        MillTown t = new MillTown();
        for (int what = 0; what < 8; what++) {
            for (int week = 0; week < 400; week += 57) {
                on.yes("price(" + what + ", " + week + ")", t.price(what, week, 1 + what * 1000 + week));
            }
        }
        for (int what = 0; what < 8; what++) {
            for (int week = 0; week < 400; week += 57) {
                on.is("PRICE of " + what + " in WEEK " + week, t.priceOf(what, week), 1 + what * 1000 + week);
            }
        }
        t.price(3, 57, 9);
        on.is("told anew", t.priceOf(3, 57), 9);
        on.is("the WEEK behind it", t.priceOf(3, 58), 60);
    }

    private static void neither(Edge on) {
        MillTown t = Due.smallTown();
        on.is("CLOSED at first", t.millOf(0, 4), 0);
        on.is("STRUCK at first", t.millOf(0, 5), 0);
        t.strike(0, true);
        on.is("STRUCK", t.millOf(0, 5), 1);
        on.is("not CLOSED", t.millOf(0, 4), 0);
        t.strike(0, false);
        t.person(0, 30, 1);
        t.mill(0, 100, 0, 0);
        t.work(1, 3, 0, 50);
        Due.enforce(t, "price 1;");
        t.terms(1000, 100000);
        t.order(0, 6, 1, 0, 0);
        on.no("a GAIN below LEAST", t.weeks(1) == 1 && t.millOf(0, 7) != 0);
        t.terms(999, 100000);
        t.order(0, 6, 27, 1, 1);
        t.weeks(1);
        on.is("COINS: a bale, a day hand, 6 PIECES at a loss", t.millOf(0, 2), 5000 - 1000 - 3000 - 6 - 6 * 972);
        on.is("CLOSED", t.millOf(0, 4), 1);
        on.is("the other isn't", t.millOf(1, 4), 0);
        on.no("it can't be STRUCK", t.strike(0, true));
        on.is("so it is CLOSED alone", t.millOf(0, 5), 0);
    }

    private static void debtsThere(Edge on) {
        MillTown t = new MillTown();
        t.mill(1, 100, 10000, 0);
        t.shop(1000, 400, 0);
        t.shop(2000, 400, 0);
        for (int home = 0; home < 3; home++) {
            t.home(home == 0 ? 0 : 1, 0);
            t.person(home, 30, 1);
            t.person(home, 30, 1);
            t.work(2 * home, 3, 0, 1 + home);
        }
        t.kind(0, 10, 20, 1, 0, 0);
        t.person(2, 30, 10);
        t.work(6, 1, 0, 1);
        t.mean(1, 30);
        t.order(0, 30, 100, 0, 0);
        t.weeks(1);
        on.are("DEBTS of HOMES", Edge.facts(3, h -> t.homeOf(h, 1)), 2 * 30, 4 * 30, 6 * 30);
        on.are("HUNGER", Edge.facts(3, h -> t.homeOf(h, 6)), 4, 0, 0);
        on.are("COINS of SHOPS", Edge.facts(2, s -> t.shopOf(s, 0)), 1000 - 60, 2000 - 120 - 180);
        on.are("DEBTS there", Edge.facts(2, s -> t.shopOf(s, 1)), 60, 120 + 180);
        on.are("GONE", Edge.facts(3, h -> t.homeOf(h, 2)), 0, 0, 0);
        t.weeks(3);
        on.are("GONE behind 4 WEEKS", Edge.facts(3, h -> t.homeOf(h, 2)), 1, 0, 0);
    }

    private static void homesOfPersons(Edge on) {
        MillTown t = new MillTown();
        t.shop(0, 0, 0);
        int[] homes = {2, 0, 1, 2, 1, 2};
        for (int home = 0; home < 3; home++) {
            t.home(0, 0);
        }
        for (int p = 0; p < homes.length; p++) {
            t.person(homes[p], 20 + p, 1 + p);
        }
        on.are("HOME of PERSON", Edge.facts(6, p -> t.personOf(p, 0)), homes);
        on.are("AGE", Edge.facts(6, p -> t.personOf(p, 1)), 20, 21, 22, 23, 24, 25);
        on.are("SKILL", Edge.facts(6, p -> t.personOf(p, 2)), 1, 2, 3, 4, 5, 6);
        on.are("PERSONS of HOME", Edge.facts(3, h -> t.homeOf(h, 4)), 1, 2, 3);
    }

    private static void failedOrNot(Edge on) {
        MillTown t = new MillTown();
        t.shop(5, 0, 6);
        t.shop(5, 0, 5);
        on.are("FAILED at first", Edge.facts(2, s -> t.shopOf(s, 2)), 0, 0);
        t.weeks(1);
        on.are("FAILED", Edge.facts(2, s -> t.shopOf(s, 2)), 1, 0);
        on.is("a HOME can have one that is FAILED", t.home(0, 7), 0);
        t.weeks(1);
        on.are("COINS: one that is FAILED pays no RENT", Edge.facts(2, s -> t.shopOf(s, 0)), -1, -5);
    }

    private static void underPiece(Edge on) {
        MillTown t = new MillTown();
        t.mill(20, 100, 0, 0);
        t.mill(20, 100, 0, 0);
        t.shop(0, 0, 0);
        t.home(0, 0);
        for (int p = 0; p < 6; p++) {
            t.person(0, 15, 1);
        }
        t.work(0, 1, 1, 4);
        t.work(1, 3, 1, 4);
        t.work(2, 4, 1, 4);
        on.no("under one without WORK", t.work(3, 2, 5, 1));
        on.no("under a DAY hand", t.work(3, 2, 1, 1));
        on.no("under a HALF hand", t.work(3, 2, 2, 1));
        on.yes("under one with PIECE", t.work(3, 2, 0, 1));
        on.no("under a LEARNER", t.work(4, 2, 3, 1));
        on.is("its MILL is the teacher's", t.personOf(3, 4), 1);
        on.is("its teacher", t.personOf(3, 6), 0);
        on.yes("another under the same", t.work(4, 2, 0, 2));
        on.is("LOOMS that are had", t.millOf(1, 1), 7);
    }

    private static void countedClauses(Edge on) {
        pay(on, "price 30;", 30);
        pay(on, "price 30; extra 3 add 7;", 37);
        pay(on, "price 30; extra 3 take 7;", 23);
        pay(on, "price 30; extra 2 add 7; extra 4 take 7;", 30);
        pay(on, "extra 3 add 7;", 0);
        for (String text : new String[] {"price 1", "extra 3 7;", "extra add 7;", "extra 3 add;", "extra 3 to 7;", "price;"}) {
            MillTown t = new MillTown();
            on.is("text() of " + text, Due.read(t, text), NONE);
            on.is("its FAULT", t.fault(0), 1);
        }
    }

    private static void whens(Edge on) {
        pay(on, "price 30; when hard=4 add 7;", 37);
        pay(on, "price 30; when hard=4 take 7;", 23);
        pay(on, "price 30; when hard=5 add 7; when hard=3 take 8;", 30);
        pay(on, "when hard=4 add 7;", 0);
        for (String text : new String[] {"when add 7;", "when hard=4 7;", "when hard=4 add;", "when hard=4 to 7;"}) {
            MillTown t = new MillTown();
            on.is("text() of " + text, Due.read(t, text), NONE);
            on.is("its FAULT", t.fault(0), 1);
        }
    }

    private static void nots(Edge on) {
        pay(on, "price 1; when not hard=4 add 1;", 1);
        pay(on, "price 1; when not hard=5 add 1;", 2);
        pay(on, "price 1; when not not hard=4 add 1;", 2);
        pay(on, "price 1; when not not hard=5 add 1;", 1);
        pay(on, "price 1; when not not not hard=5 add 1;", 2);
        pay(on, "price 1; when not hard=5 and not yarn=9 add 1;", 2);
        pay(on, "price 1; when not hard=5 and yarn=9 add 1;", 1);
        pay(on, "price 1; when not hard=4 or yarn=10 add 1;", 2);
    }

    private static void ones(Edge on) {
        pay(on, "price 17;", 17);
        pay(on, "price picks;", 60);
        pay(on, "price width;", 30);
        pay(on, "price yarn;", 10);
        pay(on, "price hard;", 4);
        pay(on, "price (17);", 17);
        pay(on, "price 2*(3+4);", 14);
        pay(on, "price 20 - -3;", 23);
        pay(on, "price - -5;", 5);
        pay(on, "price -(3-9);", 6);
        pay(on, "price - -(3-9)+10;", 4);
    }

    private static void fractions(Edge on) {
        pay(on, "price 1/3*3;", 1);
        pay(on, "price 7/2*2;", 7);
        pay(on, "price 1/3+1/3+1/3;", 1);
        pay(on, "price 10/4+10/4;", 5);
        pay(on, "price 100*(1/2-1/3)*6;", 100);
        pay(on, "price 1/(1/7);", 7);
        pay(on, "price 1; when 1/3=2/6 add 1;", 2);
        pay(on, "price 1; when 1/3<333/1000 add 1;", 1);
        pay(on, "price 1; when 1/3>333/1000 add 1;", 2);
        pay(on, "price max(1/3,1/4)*12;", 4);
        pay(on, "price min(1/3,1/4)*12;", 3);
    }

    private static void theText(Edge on) {
        MillTown t = new MillTown();
        t.mill(1, 50, 0, 0);
        t.mill(1, 50, 0, 0);
        Due.read(t, "price 11; age 0 to 99 hours 12;");
        Due.read(t, "price 21; age 0 to 99 hours 22;");
        t.force(0, 0, 3, 5);
        t.force(1, NONE, 5, 7);
        int[] first = {0, 0, 0, 11, 11, 21, 21, 21, 0};
        int[] second = {0, 0, 0, 0, 0, 21, 21, 21, 0};
        for (int week = 0; week < first.length; week++) {
            int of = week;
            on.are("PAY in WEEK " + week, Edge.facts(2, m -> t.pay(0, m, of, 0)), first[week], second[week]);
            on.are("HOURS in WEEK " + week, Edge.facts(2, m -> t.hours(30, m, of, 0)), first[week] == 0 ? 60 : first[week] + 1,
                    second[week] == 0 ? 60 : second[week] + 1);
        }
        theTextBehindFault(on);
    }

    /** What stood ahead of a FAULT is no CLAUSE of the TEXT that is read next. */
    private static void theTextBehindFault(Edge on) {
        MillTown t = new MillTown();
        t.mill(1, 50, 0, 0);
        Due.enforce(t, "price 5; age 0 to 99 hours 50;");
        on.is("a FAULT behind a price and an age", Due.read(t, "price 7; age 0 to 99 hours 40; clean 3; meals x"), NONE);
        on.is("the next TEXT", Due.enforce(t, "meals 1;"), 1);
        on.is("PAY by the first", t.pay(0, 0, 0, 0), 5);
        on.is("HOURS by both", t.hours(30, 0, 0, 0), 49);
    }

    private static void pricesTogether(Edge on) {
        pay(on, "price 10; price 5;", 15);
        pay(on, "price 1/2; price 1/3; price 1/6;", 1);
        pay(on, "price picks; extra 3 add 1; price -20; price width;", 71);
        pay(on, "price 5; price -5;", 0);
        MillTown t = new MillTown();
        t.mill(1, 50, 0, 0);
        Due.enforce(t, "price 10; price 5;");
        Due.enforce(t, "extra 0 add 100; when 1=1 add 100; least 100;");
        on.is("a TEXT without price isn't THE TEXT", t.pay(0, 0, 0, 0), 15);
        Due.enforce(t, "price 7;");
        on.is("nor is one ahead of the latest with price", t.pay(0, 0, 0, 0), 7);
    }

    private static void moreOrLess(Edge on) {
        pay(on, "price 10; extra 3 add 5; when 1=1 take 3;", 12);
        pay(on, "price 10; when 1=1 take 3; extra 3 add 5;", 12);
        pay(on, "price 10; when 1=1 take 30; extra 3 add 25;", 5);
        pay(on, "price 10; extra 3 add 1/2; extra 3 add 1/2; extra 3 take 1/2;", 10);
        pay(on, "price 10; extra 3 add -4; when 1=1 take -1;", 7);
        pay(on, "extra 3 take 4; price 10; when 1=1 add 1;", 7);
        pay(on, "price 9999*9999; extra 3 add 9999*9999; extra 3 take 2*9999*9999; extra 3 add 6;", 6);
    }

    private static void hoursByText(Edge on) {
        MillTown t = new MillTown();
        t.mill(1, 50, 0, 0);
        Due.enforce(t, "age 0 to 12 hours 30; age 13 to 99 hours 55;");
        on.is("of a child", t.hours(12, 0, 0, 0), 30);
        on.is("of another", t.hours(13, 0, 0, 0), 55);
        Due.enforce(t, "price 1; meals 2;");
        on.is("a TEXT without age isn't THE TEXT for it", t.hours(13, 0, 0, 0), 53);
        Due.enforce(t, "age 0 to 99 hours 40; clean 1;");
        on.is("by the latest with age", t.hours(13, 0, 0, 0), 37);
        on.is("by the latest with age, of a child", t.hours(12, 0, 0, 0), 37);
    }

    private static void kindTold(Edge on) {
        MillTown t = new MillTown();
        t.mill(1, 50, 0, 0);
        on.yes("a KIND", t.kind(4, 61, 32, 13, 5, 2));
        Due.enforce(t, "price picks; price width * 100; price yarn * 2 * 1000; extra 1 add hard * 5000 * 2; extra 0 add 1;");
        on.is("all of it counts", t.pay(4, 0, 0, 0), 61 + 3200 + 26000 + 50000);
        on.yes("told anew", t.kind(4, 61, 32, 13, 5, 1));
        on.is("as it was told last", t.pay(4, 0, 0, 0), 61 + 3200 + 26000 + 1);
        on.is("another is as it was", t.pay(3, 0, 0, 0), 60 + 3000 + 20000);
    }

    private static void priceTold(Edge on) {
        MillTown t = new MillTown();
        on.yes("a price", t.price(1, 3, 9));
        on.yes("no number behind it", t.price(1, 4, NONE));
        on.are("PRICES", Edge.facts(6, w -> t.priceOf(1, w)), 6, 6, 6, 9, 9, 6);
        on.yes("no number in place of the price", t.price(1, 3, NONE));
        on.are("PRICES then", Edge.facts(6, w -> t.priceOf(1, w)), 6, 6, 6, 6, 6, 6);
        t.weeks(10);
        on.yes("a price of a WEEK that is over", t.price(1, 3, 8));
        on.are("PRICES with it", Edge.facts(6, w -> t.priceOf(1, w)), 6, 6, 6, 8, 8, 6);
    }

    private static void meanTold(Edge on) {
        MillTown t = new MillTown();
        t.price(0, 1, 900);
        on.yes("a MEAN", t.mean(0, 1100));
        on.are("PRICES of cotton", Edge.facts(3, w -> t.priceOf(0, w)), 1100, 900, 1100);
        on.yes("told anew", t.mean(0, 1200));
        on.are("PRICES of cotton", Edge.facts(3, w -> t.priceOf(0, w)), 1200, 900, 1200);
        on.is("of a loaf as it was", t.priceOf(1, 0), 6);
    }

    private static void priceAsked(Edge on) {
        MillTown t = new MillTown();
        on.are("PRICES", Edge.facts(8, what -> t.priceOf(what, 0)), 1000, 6, 60, 60, 60, 60, 60, 60);
        t.price(7, 0, 5);
        t.price(7, 399, 4);
        on.are("PRICES in WEEK 0", Edge.facts(8, what -> t.priceOf(what, 0)), 1000, 6, 60, 60, 60, 60, 60, 5);
        on.are("PRICES in WEEK 399", Edge.facts(8, what -> t.priceOf(what, 399)), 1000, 6, 60, 60, 60, 60, 60, 4);
    }

    private static void millTold(Edge on) {
        MillTown t = new MillTown();
        on.is("a MILL", t.mill(40, 150, 777, 10), 0);
        on.is("another", t.mill(50, 50, 888, -10), 1);
        on.are("of the first", Edge.facts(10, what -> t.millOf(0, what)), 40, 0, 777, 0, 0, 0, NONE, 0, NONE, 0);
        on.are("of the second", Edge.facts(10, what -> t.millOf(1, what)), 50, 0, 888, 0, 0, 0, NONE, 0, NONE, 0);
        t.shop(0, 0, 0);
        t.home(0, 0);
        t.person(0, 30, 1);
        t.work(0, 1, 0, 6);
        t.order(0, 500, 1000, 0, 0);
        t.mean(0, 700);
        t.weeks(1);
        on.is("3 PIECES by its SPEED", t.millOf(0, 9), 6 * 60 * 150 / 18000);
    }

    private static void shopTold(Edge on) {
        MillTown t = new MillTown();
        on.is("a SHOP", t.shop(70, 100, 7), 0);
        on.is("another", t.shop(80, 200, 8), 1);
        on.are("COINS", Edge.facts(2, s -> t.shopOf(s, 0)), 70, 80);
        t.weeks(1);
        on.are("COINS without RENT", Edge.facts(2, s -> t.shopOf(s, 0)), 63, 72);
    }

    private static void homeTold(Edge on) {
        MillTown t = new MillTown();
        t.shop(0, 0, 0);
        on.is("a HOME", t.home(0, 70), 0);
        on.is("another", t.home(0, 80), 1);
        on.are("of the first", Edge.facts(7, what -> t.homeOf(0, what)), 70, 0, 0, 0, 0, 0, 0);
        on.are("of the second", Edge.facts(7, what -> t.homeOf(1, what)), 80, 0, 0, 0, 0, 0, 0);
    }

    private static void personTold(Edge on) {
        MillTown t = new MillTown();
        t.shop(0, 0, 0);
        t.home(0, 0);
        on.is("a PERSON", t.person(0, 30, 3), 0);
        on.is("another", t.person(0, 10, 4), 1);
        on.are("of the first", Edge.facts(9, what -> t.personOf(0, what)), 0, 30, 3, 0, NONE, 0, NONE, 0, 0);
        on.are("of the second", Edge.facts(9, what -> t.personOf(1, what)), 0, 10, 4, 0, NONE, 0, NONE, 0, 0);
        on.is("PERSONS of the HOME", t.homeOf(0, 4), 2);
        on.is("its NEED", t.homeOf(0, 3), 6);
    }

    private static void workTold(Edge on) {
        MillTown t = Due.smallTown();
        t.order(0, 500, 100, 0, 399);
        t.weeks(1);
        on.is("WAGES by the PIECE", t.personOf(0, 8), 120);
        on.yes("a DAY hand from now on", t.work(0, 3, 0, 2));
        on.are("WORK", Edge.facts(8, what -> t.personOf(0, what)), 0, 30, 5, 3, 0, 2, NONE, 0);
        on.is("the latest WEEK's WAGES are as they were", t.personOf(0, 8), 120);
        t.person(0, 30, 5);
        on.yes("another weaver", t.work(1, 1, 0, 4));
        t.weeks(2);
        on.is("WAGES by the hour", t.personOf(0, 8), 120);
        on.is("HOURS * n", t.book(0, 1, 0), 120 + 120);
        on.yes("none from now on", t.work(0, 0, 0, 0));
        t.weeks(1);
        on.is("no WAGES", t.personOf(0, 8), 0);
        on.is("the book of WEEK 1 is as it was", t.book(0, 1, 0), 240);
    }

    private static void forceTold(Edge on) {
        MillTown t = new MillTown();
        t.mill(1, 50, 0, 0);
        t.mill(1, 50, 0, 0);
        Due.read(t, "price 5;");
        Due.read(t, "price 6;");
        on.is("a FORCE", t.force(1, 1, 2, 3), 0);
        on.is("another", t.force(0, NONE, 2, 2), 1);
        on.is("a third", t.force(1, 0, 3, 3), 2);
        on.is("FORCES", t.about(6), 3);
        on.are("PAY in WEEK 2", Edge.facts(2, m -> t.pay(0, m, 2, 0)), 5, 5);
        on.are("PAY in WEEK 3", Edge.facts(2, m -> t.pay(0, m, 3, 0)), 6, 6);
        on.are("why in WEEK 2", Edge.facts(2, m -> t.why(0, m, 2, 0, NONE)), 1, 1);
        on.are("why in WEEK 3", Edge.facts(2, m -> t.why(0, m, 3, 0, NONE)), 2, 0);
    }

    private static MillTown told() {
        MillTown t = new MillTown();
        t.mill(1, 50, 0, 0);
        t.mill(1, 50, 0, 0);
        Due.read(t, "price 5; price yarn; age 0 to 99 hours 50;");
        Due.read(t, "price 7; price yarn; age 0 to 99 hours 40;");
        t.force(0, NONE, 0, 10);
        t.weeks(2);
        t.force(1, 1, 4, 10);
        t.kind(2, 60, 30, 20, 0, 0);
        return t;
    }

    private static void payAsked(Edge on) {
        MillTown t = told();
        on.is("in a WEEK that is over", t.pay(0, 1, 0, 0), 15);
        on.is("in WEEK 4 as KNOWN in WEEK 1", t.pay(0, 1, 4, 1), 15);
        on.is("in WEEK 4 as KNOWN in WEEK 2", t.pay(0, 1, 4, 2), 17);
        on.is("in WEEK 3", t.pay(0, 1, 3, 2), 15);
        on.is("at the other MILL", t.pay(0, 0, 4, 2), 15);
        on.is("of another KIND", t.pay(2, 1, 4, 2), 27);
        on.is("in WEEK 11", t.pay(0, 1, 11, 2), 0);
        on.is("in WEEK 4 as KNOWN in WEEK 399", t.pay(0, 1, 4, 399), 17);
    }

    private static void hoursAsked(Edge on) {
        MillTown t = told();
        on.is("in a WEEK that is over", t.hours(30, 1, 0, 0), 50);
        on.is("in WEEK 4 as KNOWN in WEEK 1", t.hours(30, 1, 4, 1), 50);
        on.is("in WEEK 4 as KNOWN in WEEK 2", t.hours(30, 1, 4, 2), 40);
        on.is("in WEEK 3", t.hours(30, 1, 3, 2), 50);
        on.is("at the other MILL", t.hours(30, 0, 4, 2), 50);
        on.is("in WEEK 11", t.hours(30, 1, 11, 2), 60);
        on.is("in WEEK 4 as KNOWN in WEEK 399", t.hours(30, 1, 4, 399), 40);
    }
}
