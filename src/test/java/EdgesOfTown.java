/** Edges that are named by the first part of Terms and by promises 1 to 10. */
final class EdgesOfTown {
    private static final int NONE = MillTown.NONE;
    private static final int ALL_EXTRAS = (1 << 30) - 1;

    private EdgesOfTown() {
    }

    static void all(Edges e) {
        e.of("use", "An object is used for at most 512 calls after it has been made", EdgesOfTown::calls);
        e.of("I", "WEEKS 0 .. 399", EdgesOfTown::weeks);
        e.of("I", "the clock is the WEEK that comes next, at first 0", EdgesOfTown::clock);
        e.of("I", "KINDS of cloth 0 .. 5", EdgesOfTown::kinds);
        e.of("I", "PICKS (10 .. 200)", on -> on.range("PICKS", 10, 200, v -> kind(v, 30, 10, 0, 0)));
        e.of("I", "WIDTH (20 .. 60)", on -> on.range("WIDTH", 20, 60, v -> kind(60, v, 10, 0, 0)));
        e.of("I", "YARN (1 .. 50 pounds a PIECE)", on -> on.range("YARN", 1, 50, v -> kind(60, 30, v, 0, 0)));
        e.of("I", "HARD (0 .. 9)", on -> on.range("HARD", 0, 9, v -> kind(60, 30, 10, v, 0)));
        e.of("I", "EXTRAS: a set of 0 .. 29 (bits)", EdgesOfTown::extras);
        e.of("I", "at first 60, 30, 10, 0, none", EdgesOfTown::kindsAtFirst);
        e.of("I", "prices by WEEKS of WHAT 0 (a bale of cotton), 1 (a loaf), 2 + k", EdgesOfTown::goods);
        e.of("I", "each 1 .. 100000, or told as no number (NONE)", EdgesOfTown::prices);
        e.of("I", "if that is no number, the PRICE of the WEEK ahead", EdgesOfTown::noNumber);
        e.of("I", "if nothing was told for that WEEK, or it would be ahead of 0: the MEAN of that WHAT",
                EdgesOfTown::nothingTold);
        e.of("I", "(1 .. 100000; at first 1000, 6, 60)", EdgesOfTown::means);
        e.of("I", "MILLS 0 .. 7", EdgesOfTown::mills);
        e.of("I", "LOOMS (0 .. 60)", on -> on.range("LOOMS", 0, 60, v -> new MillTown().mill(v, 100, 0, 0) == 0));
        e.of("I", "SPEED (50 .. 200)", on -> on.range("SPEED", 50, 200, v -> new MillTown().mill(1, v, 0, 0) == 0));
        e.of("I", "LEAST (-1000 .. 1000)",
                on -> on.range("LEAST", -1000, 1000, v -> new MillTown().mill(1, 100, 0, v) == 0));
        e.of("I", "YARN in store (pounds; at first 0)", EdgesOfTown::store);
        e.of("I", "HOMES 0 .. 23", EdgesOfTown::homes);
        e.of("I", "PERSONS 0 .. 59", EdgesOfTown::persons);
        e.of("I", "an AGE (5 .. 80)", on -> on.range("AGE", 5, 80, v -> housed().person(0, v, 1) == 0));
        e.of("I", "a SKILL (1 .. 10)", on -> on.range("SKILL", 1, 10, v -> housed().person(0, 30, v) == 0));
        e.of("I", "SHOPS 0 .. 3", EdgesOfTown::shops);
        e.of("I", "TRUST (0 .. 400 hundredths)",
                on -> on.range("TRUST", 0, 400, v -> new MillTown().shop(0, v, 0) == 0));
        e.of("I", "RENT (0 .. 1000 a WEEK)", on -> on.range("RENT", 0, 1000, v -> new MillTown().shop(0, 0, v) == 0));
        e.of("I", "WORK of a PERSON, one at a time: none", EdgesOfTown::oneAtATime);
        e.of("I", "1 PIECE: at a MILL with n of its LOOMS (1 .. 6)",
                on -> on.range("LOOMS of PIECE", 1, 6, v -> workers().work(0, 1, 0, v)));
        e.of("I", "(in its MILL, with n LOOMS more, 1 or 2)", EdgesOfTown::learnersLooms);
        e.of("I", "3 DAY: at a MILL for n coins an hour (1 .. 50)",
                on -> on.range("coins of DAY", 1, 50, v -> workers().work(1, 3, 0, v)));
        e.of("I", "4 HALF likewise", on -> on.range("coins of HALF", 1, 50, v -> workers().work(0, 4, 0, v)));
        e.of("I", "of AGES below 18", EdgesOfTown::agesOfHalf);
        e.of("I", "LOOMS of all at a MILL are not above its own.", EdgesOfTown::loomsOfAll);
        e.of("I", "Who ends PIECE ends the WORK of its LEARNERS, too.", EdgesOfTown::learnersEnd);
        promises(e);
    }

    private static void promises(Edges e) {
        e.of(1, "No MILLS, HOMES, SHOPS, TEXTS; WEEK 0; THE IMAGE is this.", EdgesOfTown::newObject);
        e.of(2, "False, changing nothing: others, or an ORDER of it was told.", EdgesOfTown::kindRefused);
        e.of(3, "False for others.", EdgesOfTown::priceRefused);
        e.of(4, "False for others.", EdgesOfTown::meanRefused);
        e.of(5, "NONE for others.", EdgesOfTown::priceOfRefused);
        e.of(6, "(COINS 0 .. 1000000)",
                on -> on.range("COINS of a MILL", 0, 1000000, v -> new MillTown().mill(1, 100, v, 0) == 0));
        e.of(6, "NONE for others, or if there are 8.", EdgesOfTown::millRefused);
        e.of(7, "(COINS 0 .. 100000)",
                on -> on.range("COINS of a SHOP", 0, 100000, v -> new MillTown().shop(v, 0, 0) == 0));
        e.of(7, "NONE for others, or if there are 4.", EdgesOfTown::shopRefused);
        e.of(8, "(COINS 0 .. 10000)", on -> on.range("COINS of a HOME", 0, 10000, v -> housed().home(0, v) == 1));
        e.of(8, "NONE for others, or if there are 24.", EdgesOfTown::homeRefused);
        e.of(9, "NONE for others, a HOME that is GONE, or if there are 60.", EdgesOfTown::personRefused);
        e.of(10, "(sort 0: none; where a MILL, of a LEARNER its teacher)", EdgesOfTown::sorts);
        e.of(10, "REST is 0 then.", EdgesOfTown::restIsZero);
        e.of(10, "False, changing nothing: others", EdgesOfTown::workRefused);
        e.of(10, "a MILL that is CLOSED", EdgesOfTown::closedMill);
        e.of(10, "too few LOOMS (those it has itself aside)", EdgesOfTown::ownLoomsAside);
        e.of(10, "AGE", EdgesOfTown::tooOldForHalf);
        e.of(10, "a HOME that is GONE", EdgesOfTown::goneHome);
        e.of(10, "a teacher that is itself, that would itself be without PIECE then, or has none.",
                EdgesOfTown::teachers);
    }

    private static boolean kind(int picks, int width, int yarn, int hard, int extras) {
        return new MillTown().kind(0, picks, width, yarn, hard, extras);
    }

    private static MillTown housed() {
        MillTown t = new MillTown();
        t.shop(100, 0, 0);
        t.home(0, 0);
        return t;
    }

    /** A MILL of 10 LOOMS; PERSON 0 of AGE 17, the others of 18, 40 and 41. */
    private static MillTown workers() {
        MillTown t = housed();
        t.mill(10, 100, 0, 0);
        t.person(0, 17, 1);
        t.person(0, 18, 1);
        t.person(0, 40, 1);
        t.person(0, 41, 1);
        return t;
    }

    private static void calls(Edge on) {
        MillTown t = new MillTown();
        for (int call = 1; call <= 512; call++) {
            on.is("call " + call, t.priceOf(0, 0), 1000);
        }
        MillTown weeks = new MillTown();
        for (int call = 1; call <= 512; call += 2) {
            on.is("call " + call, weeks.weeks(52), 52);
            on.is("call " + (call + 1), weeks.back(), 0);
        }
    }

    private static void weeks(Edge on) {
        on.range("price in WEEK", 0, 399, v -> new MillTown().price(0, v, 5));
        on.range("PRICE of WEEK", 0, 399, v -> new MillTown().priceOf(0, v) == 1000);
        on.range("PAY in WEEK", 0, 399, v -> workers().pay(0, 0, v, 0) == 0);
        on.range("PAY as KNOWN in WEEK", 0, 399, v -> workers().pay(0, 0, 0, v) == 0);
        on.range("HOURS in WEEK", 0, 399, v -> workers().hours(30, 0, v, 0) == 60);
        on.range("HOURS as KNOWN in WEEK", 0, 399, v -> workers().hours(30, 0, 0, v) == 60);
        on.range("an ORDER known from WEEK", 0, 399, v -> new MillTown().order(0, 1, 1, v, 399) == 0);
        on.range("an ORDER to WEEK", 0, 399, v -> new MillTown().order(0, 1, 1, 0, v) == 0);
        MillTown t = new MillTown();
        for (int clock = 50; clock <= 350; clock += 50) {
            on.is("weeks(50)", t.weeks(50), clock);
        }
        on.is("the last but one", t.weeks(49), 399);
        on.is("the last WEEK is 399", t.weeks(1), 400);
        on.none(t, "a WEEK 400", () -> t.weeks(1));
    }

    private static void clock(Edge on) {
        MillTown t = housed();
        t.back();
        t.shop(0, 0, 0);
        t.home(0, 100);
        t.person(0, 30, 1);
        t.price(1, 0, 7);
        t.price(1, 1, 9);
        on.is("the clock at first", t.about(0), 0);
        on.is("weeks(1)", t.weeks(1), 1);
        on.is("the clock behind a WEEK", t.about(0), 1);
        on.is("WEEK 0 went by", t.homeOf(0, 0), 100 - 4 * 7);
        t.weeks(1);
        on.is("WEEK 1 went by", t.homeOf(0, 0), 72 - 4 * 9);
    }

    private static void kinds(Edge on) {
        on.range("KIND", 0, 5, v -> new MillTown().kind(v, 60, 30, 10, 0, 0));
        on.range("PAY of KIND", 0, 5, v -> workers().pay(v, 0, 0, 0) == 0);
        on.range("an ORDER of KIND", 0, 5, v -> new MillTown().order(v, 1, 1, 0, 0) == 0);
        on.range("a WISH of KIND", 0, 5, v -> new MillTown().wish(v, 1));
        MillTown t = workers();
        on.range("why of KIND", 0, 5, v -> {
            t.back();
            t.mill(1, 50, 0, 0);
            Due.enforce(t, "price 1;");
            return t.why(v, 0, 0, 0, NONE) == 0;
        });
    }

    private static void extras(Edge on) {
        on.range("EXTRAS", 0, ALL_EXTRAS, v -> kind(60, 30, 10, 0, v));
        int[][] sets = {{1, 1, 0}, {2, 0, 0}, {1 << 28, 0, 0}, {1 << 29, 0, 1}, {ALL_EXTRAS, 1, 1}, {0, 0, 0}};
        for (int[] set : sets) {
            MillTown t = workers();
            t.kind(0, 60, 30, 10, 0, set[0]);
            Due.enforce(t, "price 0; extra 0 add 100; extra 29 add 5;");
            on.is("PAY with EXTRAS " + set[0], t.pay(0, 0, 0, 0), 100 * set[1] + 5 * set[2]);
        }
    }

    private static void kindsAtFirst(Edge on) {
        MillTown t = workers();
        String[] asks = {"picks=60", "width=30", "yarn=10", "hard=0"};
        for (String ask : asks) {
            Due.enforce(t, "price 1; when " + ask + " add 1;");
            for (int kind = 0; kind < 6; kind++) {
                on.is(ask + " of KIND " + kind, t.pay(kind, 0, 0, 0), 2);
            }
        }
        t.back();
        t.mill(1, 50, 0, 0);
        StringBuilder extras = new StringBuilder("price 1;");
        for (int extra = 0; extra < 23; extra++) {
            extras.append("extra ").append(extra).append("add1;");
        }
        Due.enforce(t, extras.toString());
        on.is("no extra from 0 to 22", t.pay(5, 0, 0, 0), 1);
        Due.enforce(t, "price 1;extra 23add1;extra 24add1;extra 25add1;extra 26add1;extra 27add1;extra 28add1;extra 29add1;");
        on.is("no extra from 23 to 29", t.pay(0, 0, 0, 0), 1);
    }

    private static void goods(Edge on) {
        on.range("price of WHAT", 0, 7, v -> new MillTown().price(v, 0, 5));
        on.range("mean of WHAT", 0, 7, v -> new MillTown().mean(v, 5));
        on.range("PRICE of WHAT", 0, 7, v -> new MillTown().priceOf(v, 0) > 0);
        MillTown t = new MillTown();
        for (int what = 0; what < 8; what++) {
            t.price(what, 3, 11 + what);
        }
        for (int what = 0; what < 8; what++) {
            on.is("each WHAT has a price of its own: " + what, t.priceOf(what, 3), 11 + what);
        }
    }

    private static void prices(Edge on) {
        int[][] values = {{Integer.MIN_VALUE, 0}, {-2, 0}, {NONE, 1}, {0, 0}, {1, 1}, {2, 1}, {99999, 1}, {100000, 1},
            {100001, 0}, {Integer.MAX_VALUE, 0}};
        for (int[] v : values) {
            MillTown t = new MillTown();
            on.is("a price of " + v[0], t.price(1, 0, v[0]) ? 1 : 0, v[1]);
            on.is("PRICE then", t.priceOf(1, 0), v[1] == 1 && v[0] != NONE ? v[0] : 6);
        }
    }

    private static void noNumber(Edge on) {
        MillTown t = new MillTown();
        t.price(1, 4, 9);
        t.price(1, 5, NONE);
        t.price(1, 6, NONE);
        on.is("the one told", t.priceOf(1, 4), 9);
        on.is("no number behind it", t.priceOf(1, 5), 9);
        on.is("no number behind no number", t.priceOf(1, 6), 9);
        on.is("the one ahead of it, with nothing told", t.priceOf(1, 3), 6);
        t.price(1, 5, 8);
        on.is("a number in place of no number", t.priceOf(1, 6), 8);
        t.price(1, 398, 7);
        t.price(1, 399, NONE);
        on.is("no number in WEEK 399", t.priceOf(1, 399), 7);
        MillTown all = new MillTown();
        all.price(0, 0, 12);
        for (int week = 1; week < 400; week++) {
            all.price(0, week, NONE);
        }
        on.is("no number in any WEEK but 0", all.priceOf(0, 399), 12);
    }

    private static void nothingTold(Edge on) {
        MillTown t = new MillTown();
        t.mean(1, 15);
        on.is("nothing told for WEEK 0", t.priceOf(1, 0), 15);
        t.price(1, 0, NONE);
        t.price(1, 1, NONE);
        on.is("no number in WEEK 0", t.priceOf(1, 0), 15);
        on.is("no number in WEEKS 0 and 1", t.priceOf(1, 1), 15);
        t.price(1, 3, 9);
        t.price(1, 5, NONE);
        on.is("nothing told behind a number", t.priceOf(1, 4), 15);
        on.is("no number behind nothing told", t.priceOf(1, 5), 15);
        on.is("told", t.priceOf(1, 3), 9);
        t.price(1, 4, 3);
        on.is("told now", t.priceOf(1, 4), 3);
        on.is("no number behind it", t.priceOf(1, 5), 3);
        on.is("nothing told for WEEK 399", t.priceOf(1, 399), 15);
    }

    private static void means(Edge on) {
        int[] first = {1000, 6, 60, 60, 60, 60, 60, 60};
        for (int what = 0; what < 8; what++) {
            int of = what;
            on.is("MEAN at first of " + what, new MillTown().priceOf(what, 0), first[what]);
            on.range("MEAN", 1, 100000, v -> {
                MillTown t = new MillTown();
                return t.mean(of, v) && t.priceOf(of, 399) == v;
            });
        }
    }

    private static void mills(Edge on) {
        MillTown t = new MillTown();
        on.is("MILL 0 ahead of any", t.millOf(0, 0), NONE);
        for (int m = 0; m < 8; m++) {
            on.is("MILL " + m, t.mill(10 + m, 100, 0, 0), m);
            on.is("none behind it", t.millOf(m + 1, 0), NONE);
        }
        on.is("the first's LOOMS", t.millOf(0, 0), 10);
        on.is("the last's LOOMS", t.millOf(7, 0), 17);
        on.is("a MILL -1", t.millOf(-1, 0), NONE);
        on.is("a ninth", t.mill(1, 100, 0, 0), NONE);
    }

    private static void store(Edge on) {
        MillTown t = Due.smallTown();
        on.is("YARN at first", t.millOf(0, 3), 0);
        t.order(0, 6, 100, 0, 0);
        t.weeks(1);
        on.is("YARN behind a bale and 6 PIECES", t.millOf(0, 3), 300);
    }

    private static void homes(Edge on) {
        MillTown t = new MillTown();
        t.shop(0, 0, 0);
        on.is("HOME 0 ahead of any", t.homeOf(0, 0), NONE);
        for (int h = 0; h < 24; h++) {
            on.is("HOME " + h, t.home(0, 100 + h), h);
            on.is("none behind it", t.homeOf(h + 1, 0), NONE);
        }
        on.is("the first's COINS", t.homeOf(0, 0), 100);
        on.is("the last's COINS", t.homeOf(23, 0), 123);
        on.is("a HOME -1", t.homeOf(-1, 0), NONE);
        on.is("a 25th", t.home(0, 0), NONE);
    }

    private static void persons(Edge on) {
        MillTown t = housed();
        on.is("PERSON 0 ahead of any", t.personOf(0, 1), NONE);
        for (int p = 0; p < 60; p++) {
            on.is("PERSON " + p, t.person(0, 10 + p, 1), p);
            on.is("none behind it", t.personOf(p + 1, 1), NONE);
        }
        on.is("the first's AGE", t.personOf(0, 1), 10);
        on.is("the last's AGE", t.personOf(59, 1), 69);
        on.is("a PERSON -1", t.personOf(-1, 1), NONE);
        on.is("a 61st", t.person(0, 30, 1), NONE);
    }

    private static void shops(Edge on) {
        MillTown t = new MillTown();
        on.is("SHOP 0 ahead of any", t.shopOf(0, 0), NONE);
        for (int s = 0; s < 4; s++) {
            on.is("SHOP " + s, t.shop(50 + s, 0, 0), s);
            on.is("none behind it", t.shopOf(s + 1, 0), NONE);
        }
        on.is("the first's COINS", t.shopOf(0, 0), 50);
        on.is("the last's COINS", t.shopOf(3, 0), 53);
        on.is("a SHOP -1", t.shopOf(-1, 0), NONE);
        on.is("a fifth", t.shop(0, 0, 0), NONE);
    }

    private static void oneAtATime(Edge on) {
        MillTown t = workers();
        int[] none = {0, NONE, 0, NONE, 0};
        for (int what = 3; what < 8; what++) {
            on.is("no WORK at first: " + what, t.personOf(0, what), none[what - 3]);
        }
        t.work(0, 1, 0, 3);
        on.is("LOOMS with PIECE", t.millOf(0, 1), 3);
        t.work(0, 4, 0, 9);
        on.is("HALF in place of PIECE", t.personOf(0, 3), 4);
        on.is("LOOMS with HALF", t.millOf(0, 1), 0);
        t.work(0, 0, 0, 0);
        for (int what = 3; what < 8; what++) {
            on.is("no WORK then: " + what, t.personOf(0, what), none[what - 3]);
        }
    }

    private static void learnersLooms(Edge on) {
        on.range("LOOMS of LEARNER", 1, 2, v -> {
            MillTown t = workers();
            t.work(2, 1, 0, 4);
            return t.work(0, 2, 2, v) && t.millOf(0, 1) == 4 + v && t.personOf(0, 4) == 0;
        });
        MillTown t = workers();
        t.mill(3, 100, 0, 0);
        t.work(2, 1, 1, 1);
        on.yes("in its teacher's MILL", t.work(0, 2, 2, 2));
        on.is("that MILL", t.personOf(0, 4), 1);
        on.is("its LOOMS", t.millOf(1, 1), 3);
    }

    private static void agesOfHalf(Edge on) {
        int[][] ages = {{5, 1}, {16, 1}, {17, 1}, {18, 0}, {19, 0}, {80, 0}};
        for (int[] age : ages) {
            MillTown t = workers();
            int person = t.person(0, age[0], 1);
            on.is("HALF of AGE " + age[0], t.work(person, 4, 0, 1) ? 1 : 0, age[1]);
            on.yes("DAY of AGE " + age[0], t.work(person, 3, 0, 1));
        }
    }

    private static void loomsOfAll(Edge on) {
        MillTown t = workers();
        t.work(2, 1, 0, 5);
        on.refused(t, "6 more of 10", () -> t.work(3, 1, 0, 6));
        on.yes("4 more", t.work(3, 1, 0, 4));
        on.refused(t, "a LEARNER with 2 more", () -> t.work(0, 2, 2, 2));
        on.yes("a LEARNER with 1 more", t.work(0, 2, 2, 1));
        on.is("all are had", t.millOf(0, 1), 10);
        on.refused(t, "one more", () -> t.work(1, 1, 0, 1));
        on.yes("another MILL's are not asked", t.mill(1, 100, 0, 0) == 1 && t.work(1, 1, 1, 1));
        t.mill(0, 100, 0, 0);
        on.refused(t, "one of none", () -> t.work(3, 1, 2, 1));
        on.yes("DAY takes none", t.work(1, 3, 2, 1));
        MillTown just = workers();
        just.work(2, 1, 0, 5);
        on.yes("5 more of 10", just.work(3, 1, 0, 5));
    }

    private static void learnersEnd(Edge on) {
        int[][] tolds = {{0, 0, 0}, {3, 0, 5}, {2, 3, 1}, {1, 1, 2}};
        for (int[] told : tolds) {
            MillTown t = workers();
            t.mill(10, 100, 0, 0);
            t.work(2, 1, 0, 4);
            t.work(3, 1, 0, 3);
            t.work(0, 2, 2, 1);
            t.work(1, 2, 3, 1);
            on.yes("the teacher's WORK of sort " + told[0], t.work(2, told[0], told[1], told[2]));
            on.is("its LEARNER's WORK", t.personOf(0, 3), 0);
            on.is("its LEARNER's teacher", t.personOf(0, 6), NONE);
            on.is("another's LEARNER's WORK", t.personOf(1, 3), 2);
            on.is("another's LEARNER's teacher", t.personOf(1, 6), 3);
        }
        MillTown t = workers();
        t.work(2, 1, 0, 4);
        t.work(0, 2, 2, 1);
        t.work(0, 0, 0, 0);
        on.is("a LEARNER that ends ends nobody's", t.personOf(2, 3), 1);
    }

    private static void newObject(Edge on) {
        MillTown t = new MillTown();
        int[] due = {0, 0, 0, 0, 0, 0, 0, 0, 0, 0, 0, 0, 0, 0, 100000, NONE};
        for (int what = 0; what < due.length; what++) {
            on.is("about(" + what + ")", t.about(what), due[what]);
        }
        int[] first = Edge.seen(t);
        on.unchanged(t, "BACK at once", t::back, 0);
        t.mill(1, 100, 0, 0);
        t.shop(0, 0, 0);
        t.home(0, 0);
        t.person(0, 30, 1);
        t.kind(0, 10, 20, 1, 1, 1);
        t.price(1, 1, 1);
        t.mean(1, 2);
        t.order(0, 1, 1, 0, 0);
        t.terms(1, 1);
        t.fund(1, 1, 1);
        t.wish(1, 1);
        t.offer(0, 1);
        t.offer(1, 1);
        t.weeks(1);
        on.is("BACK to the first IMAGE", t.back(), 0);
        on.same("BACK to the first IMAGE", first, Edge.seen(t));
        on.is("no OFFERS", t.meet(), NONE);
        t.offer(1, 9);
        on.is("no hands' OFFER", t.meet(), NONE);
        t.back();
        t.offer(0, 0);
        on.is("no masters' OFFER", t.meet(), NONE);
    }

    private static void kindRefused(Edge on) {
        MillTown t = workers();
        Due.enforce(t, "price picks*200 + width*20 + yarn + hard*9999; extra 3 add 1;");
        int[][] others = {{-1, 60, 30, 10, 0, 0}, {6, 60, 30, 10, 0, 0}, {0, 9, 31, 11, 1, 1}, {0, 201, 31, 11, 1, 1},
            {0, 61, 19, 11, 1, 1}, {0, 61, 61, 11, 1, 1}, {0, 61, 31, 0, 1, 1}, {0, 61, 31, 51, 1, 1},
            {0, 61, 31, 11, -1, 1}, {0, 61, 31, 11, 10, 1}, {0, 61, 31, 11, 1, -1}, {0, 61, 31, 11, 1, 1 << 30}};
        for (int[] o : others) {
            on.refused(t, "kind" + java.util.Arrays.toString(o), () -> t.kind(o[0], o[1], o[2], o[3], o[4], o[5]));
        }
        on.yes("without an ORDER", t.kind(2, 61, 31, 11, 0, 8));
        on.is("PAY by what was told", t.pay(2, 0, 0, 0), 61 * 200 + 31 * 20 + 11 + 1);
        t.order(2, 1, 1, 5, 5);
        on.refused(t, "an ORDER of it was told", () -> t.kind(2, 60, 30, 10, 0, 0));
        on.yes("the KIND ahead of it", t.kind(1, 62, 30, 10, 0, 0));
        on.yes("the KIND behind it", t.kind(3, 62, 30, 10, 0, 0));
        t.weeks(7);
        on.refused(t, "that ORDER is over", () -> t.kind(2, 60, 30, 10, 0, 0));
        t.back();
        on.yes("no ORDER behind BACK", t.kind(2, 60, 30, 10, 0, 0));
    }

    private static void priceRefused(Edge on) {
        MillTown t = workers();
        t.price(0, 0, 77);
        int[][] others = {{-1, 0, 1}, {8, 0, 1}, {0, -1, 1}, {0, 400, 1}, {0, 0, 0}, {0, 0, -2}, {0, 0, 100001}, {7, 400, NONE}};
        for (int[] o : others) {
            on.refused(t, "price" + java.util.Arrays.toString(o), () -> t.price(o[0], o[1], o[2]));
        }
        on.yes("price(0, 0, 1)", t.price(0, 0, 1));
        on.is("it is told", t.priceOf(0, 0), 1);
        t.weeks(2);
        on.yes("of a WEEK that is over", t.price(0, 0, 2));
        on.is("it is told, too", t.priceOf(0, 0), 2);
    }

    private static void meanRefused(Edge on) {
        MillTown t = workers();
        int[][] others = {{-1, 1}, {8, 1}, {0, 0}, {0, NONE}, {0, 100001}};
        for (int[] o : others) {
            on.refused(t, "mean" + java.util.Arrays.toString(o), () -> t.mean(o[0], o[1]));
        }
        on.yes("mean(0, 1)", t.mean(0, 1));
        on.is("it is told", t.priceOf(0, 5), 1);
    }

    private static void priceOfRefused(Edge on) {
        MillTown t = workers();
        int[][] others = {{-1, 0}, {8, 0}, {0, -1}, {0, 400}, {Integer.MAX_VALUE, 0}, {0, Integer.MIN_VALUE}};
        for (int[] o : others) {
            on.none(t, "priceOf" + java.util.Arrays.toString(o), () -> t.priceOf(o[0], o[1]));
        }
        on.unchanged(t, "priceOf(7, 399)", () -> t.priceOf(7, 399), 60);
        on.unchanged(t, "priceOf(0, 0)", () -> t.priceOf(0, 0), 1000);
    }

    private static void millRefused(Edge on) {
        MillTown t = new MillTown();
        int[][] others = {{-1, 100, 0, 0}, {61, 100, 0, 0}, {1, 49, 0, 0}, {1, 201, 0, 0}, {1, 100, -1, 0},
            {1, 100, 1000001, 0}, {1, 100, 0, -1001}, {1, 100, 0, 1001}};
        for (int m = 0; m < 8; m++) {
            int[] o = others[m];
            on.none(t, "mill" + java.util.Arrays.toString(o), () -> t.mill(o[0], o[1], o[2], o[3]));
            on.is("MILL " + m, t.mill(1, 100, m, 0), m);
        }
        on.none(t, "a ninth", () -> t.mill(1, 100, 0, 0));
        on.is("there are 8", t.about(1), 8);
        t.back();
        on.is("BACK to none", t.mill(1, 100, 0, 0), 0);
    }

    private static void shopRefused(Edge on) {
        MillTown t = new MillTown();
        int[][] others = {{-1, 0, 0}, {100001, 0, 0}, {0, -1, 0}, {0, 401, 0}, {0, 0, -1}, {0, 0, 1001}};
        for (int[] o : others) {
            on.none(t, "shop" + java.util.Arrays.toString(o), () -> t.shop(o[0], o[1], o[2]));
        }
        for (int s = 0; s < 4; s++) {
            on.is("SHOP " + s, t.shop(s, 0, 0), s);
        }
        on.none(t, "a fifth", () -> t.shop(0, 0, 0));
        on.is("there are 4", t.about(2), 4);
    }

    private static void homeRefused(Edge on) {
        MillTown t = new MillTown();
        on.none(t, "without a SHOP", () -> t.home(0, 0));
        t.shop(0, 0, 0);
        t.shop(0, 0, 0);
        int[][] others = {{-1, 0}, {2, 0}, {0, -1}, {0, 10001}};
        for (int[] o : others) {
            on.none(t, "home" + java.util.Arrays.toString(o), () -> t.home(o[0], o[1]));
        }
        for (int h = 0; h < 24; h++) {
            on.is("HOME " + h, t.home(h % 2, h), h);
        }
        on.none(t, "a 25th", () -> t.home(0, 0));
        on.is("there are 24", t.about(3), 24);
    }

    private static void personRefused(Edge on) {
        MillTown t = housed();
        t.home(0, 1000);
        int[][] others = {{-1, 30, 1}, {2, 30, 1}, {0, 4, 1}, {0, 81, 1}, {0, 30, 0}, {0, 30, 11}};
        for (int[] o : others) {
            on.none(t, "person" + java.util.Arrays.toString(o), () -> t.person(o[0], o[1], o[2]));
        }
        on.is("PERSON 0", t.person(0, 30, 1), 0);
        t.weeks(3);
        on.is("a HOME in the WEEK ahead of its last", t.person(0, 30, 1), 1);
        t.weeks(1);
        on.is("HOME 0 is GONE", t.homeOf(0, 2), 1);
        on.none(t, "a HOME that is GONE", () -> t.person(0, 30, 1));
        for (int p = 2; p < 60; p++) {
            on.is("PERSON " + p, t.person(1, 30, 1), p);
        }
        on.none(t, "a 61st", () -> t.person(1, 30, 1));
        on.is("there are 60", t.about(4), 60);
    }

    private static void sorts(Edge on) {
        MillTown t = workers();
        int[][] tolds = {{-1, 0, 1, 0}, {0, 0, 0, 1}, {0, -9, 99, 1}, {1, 0, 1, 1}, {2, 2, 1, 0}, {3, 0, 1, 1}, {4, 0, 1, 1},
            {5, 0, 1, 0}};
        for (int[] told : tolds) {
            on.is("sort " + told[0], t.work(0, told[0], told[1], told[2]) ? 1 : 0, told[3]);
            if (told[3] == 1) {
                on.is("it is told", t.personOf(0, 3), told[0]);
            }
        }
        t.work(2, 1, 0, 1);
        on.refused(t, "where no MILL is", () -> t.work(0, 1, 1, 1));
        on.refused(t, "where no MILL is", () -> t.work(0, 3, -1, 1));
        on.refused(t, "where no PERSON is", () -> t.work(0, 2, 4, 1));
        on.refused(t, "where no PERSON is", () -> t.work(0, 2, -1, 1));
        on.refused(t, "where a MILL is, but no teacher", () -> t.work(0, 2, 0, 1));
        on.yes("where a teacher is", t.work(0, 2, 2, 1));
        on.is("its teacher", t.personOf(0, 6), 2);
    }

    /** One WEEK leaves a REST of 12000. */
    private static void restIsZero(Edge on) {
        int[][] tolds = {{0, 0, 0}, {1, 0, 4}, {1, 1, 4}, {2, 1, 1}, {3, 0, 1}, {4, 0, 1}};
        for (int[] told : tolds) {
            MillTown t = new MillTown();
            t.mill(8, 100, 5000, -1000);
            t.mill(8, 100, 5000, -1000);
            t.shop(0, 0, 0);
            t.home(0, 100);
            t.person(0, 17, 5);
            t.person(0, 30, 5);
            t.work(0, 1, 0, 4);
            t.work(1, 1, 0, 1);
            t.order(0, 500, 100, 0, 0);
            t.weeks(1);
            on.is("REST ahead of it", t.personOf(0, 7), 12000);
            on.refused(t, "what is refused leaves REST", () -> t.work(0, 1, 0, 9));
            on.yes("WORK of sort " + told[0], t.work(0, told[0], told[1], told[2]));
            on.is("REST then", t.personOf(0, 7), 0);
            on.is("another's REST", t.personOf(1, 7), 12000);
        }
    }

    private static void workRefused(Edge on) {
        MillTown t = workers();
        t.work(0, 3, 0, 7);
        t.work(2, 1, 0, 6);
        int[][] others = {{-1, 1, 0, 1}, {4, 1, 0, 1}, {0, -1, 0, 1}, {0, 5, 0, 1}, {0, 1, 1, 1}, {0, 1, -1, 1},
            {0, 1, 0, 0}, {0, 1, 0, 7}, {0, 2, 2, 0}, {0, 2, 2, 3}, {0, 2, 4, 1}, {0, 2, -1, 1}, {0, 3, 0, 0}, {0, 3, 0, 51},
            {0, 3, 1, 1}, {0, 3, -1, 1}, {0, 4, 0, 0}, {0, 4, 0, 51}, {0, 4, 1, 1}, {4, 0, 0, 0}, {-1, 0, 0, 0}};
        for (int[] o : others) {
            on.refused(t, "work" + java.util.Arrays.toString(o), () -> t.work(o[0], o[1], o[2], o[3]));
        }
        on.is("its WORK is as it was", t.personOf(0, 5), 7);
        on.yes("PERSON 3, the last", t.work(3, 1, 0, 1));
        on.yes("PERSON 0, the first", t.work(0, 1, 0, 1));
    }

    /** MILL 0 has 3400 coins less than its WEEK takes, one less, or just so many. */
    private static void closedMill(Edge on) {
        for (int coins = 3399; coins <= 3401; coins++) {
            MillTown t = new MillTown();
            t.mill(8, 100, coins, -1000);
            t.shop(0, 0, 0);
            t.home(0, 1000);
            t.person(0, 30, 5);
            t.person(0, 30, 1);
            t.person(0, 17, 1);
            t.work(0, 1, 0, 4);
            t.work(1, 3, 0, 50);
            t.order(0, 6, 100, 0, 0);
            t.weeks(1);
            on.is("COINS", t.millOf(0, 2), coins - 3400);
            if (coins < 3400) {
                on.refused(t, "PIECE at a MILL that is CLOSED", () -> t.work(2, 1, 0, 1));
                on.refused(t, "a LEARNER there", () -> t.work(2, 2, 0, 1));
                on.refused(t, "DAY there", () -> t.work(2, 3, 0, 1));
                on.refused(t, "HALF there", () -> t.work(2, 4, 0, 1));
                on.refused(t, "PIECE there anew", () -> t.work(0, 1, 0, 1));
                on.yes("no WORK any more", t.work(0, 0, 0, 0));
            } else {
                on.yes("PIECE", t.work(2, 1, 0, 1));
                on.yes("a LEARNER", t.work(2, 2, 0, 1));
                on.yes("DAY", t.work(2, 3, 0, 1));
                on.yes("HALF", t.work(2, 4, 0, 1));
            }
        }
    }

    private static void ownLoomsAside(Edge on) {
        MillTown t = workers();
        t.work(2, 1, 0, 6);
        t.work(3, 1, 0, 2);
        on.yes("8 of 10 are had, of its own 2: 3", t.work(3, 1, 0, 3));
        on.yes("9 of 10, of its own 3: 4", t.work(3, 1, 0, 4));
        on.refused(t, "10 of 10, of its own 4: 5", () -> t.work(3, 1, 0, 5));
        on.yes("its own 4 again", t.work(3, 1, 0, 4));
        t.mill(5, 100, 0, 0);
        on.refused(t, "its own at another MILL don't count there: 6 of 5", () -> t.work(3, 1, 1, 6));
        on.yes("5 of 5", t.work(3, 1, 1, 5));
        on.refused(t, "LOOMS of another aren't its own", () -> t.work(0, 1, 0, 5));
        t.work(3, 1, 0, 3);
        t.work(0, 2, 2, 1);
        on.refused(t, "a LEARNER's own 1 aside: 3", () -> t.work(0, 2, 2, 3));
        on.refused(t, "its own 1 aside, one is left: 2", () -> t.work(0, 2, 2, 2));
        on.yes("its own 1 aside: 1", t.work(0, 2, 2, 1));
        on.refused(t, "a teacher's LEARNER has LOOMS of its own", () -> t.work(3, 1, 0, 4));
        on.yes("the LEARNER's own aside: PIECE with 1", t.work(0, 1, 0, 1));
    }

    private static void tooOldForHalf(Edge on) {
        MillTown t = workers();
        on.refused(t, "HALF at 18", () -> t.work(1, 4, 0, 1));
        on.refused(t, "HALF at 40", () -> t.work(2, 4, 0, 1));
        on.yes("HALF at 17", t.work(0, 4, 0, 1));
        on.yes("DAY at 18", t.work(1, 3, 0, 1));
        on.yes("DAY at 17", t.work(0, 3, 0, 1));
    }

    private static void goneHome(Edge on) {
        MillTown t = workers();
        t.back();
        t.mill(9, 100, 0, 0);
        t.shop(0, 0, 0);
        t.home(0, 0);
        t.home(0, 1000);
        t.person(0, 17, 1);
        t.person(1, 17, 1);
        t.work(1, 1, 0, 1);
        t.weeks(3);
        on.yes("ahead of the fourth WEEK", t.work(0, 1, 0, 1));
        t.weeks(1);
        on.is("it is GONE", t.homeOf(0, 2), 1);
        on.refused(t, "PIECE", () -> t.work(0, 1, 0, 1));
        on.refused(t, "a LEARNER", () -> t.work(0, 2, 1, 1));
        on.refused(t, "DAY", () -> t.work(0, 3, 0, 1));
        on.refused(t, "HALF", () -> t.work(0, 4, 0, 1));
        on.refused(t, "none", () -> t.work(0, 0, 0, 0));
        on.yes("another HOME's", t.work(1, 3, 0, 1));
    }

    private static void teachers(Edge on) {
        MillTown t = workers();
        on.refused(t, "a teacher without WORK", () -> t.work(0, 2, 2, 1));
        t.work(2, 1, 0, 2);
        on.refused(t, "itself", () -> t.work(2, 2, 2, 1));
        on.refused(t, "itself, without WORK", () -> t.work(0, 2, 0, 1));
        on.yes("one with PIECE", t.work(0, 2, 2, 1));
        on.refused(t, "its own LEARNER", () -> t.work(2, 2, 0, 1));
        on.refused(t, "a LEARNER", () -> t.work(1, 2, 0, 1));
        t.work(3, 3, 0, 1);
        on.refused(t, "one with DAY", () -> t.work(1, 2, 3, 1));
        t.work(0, 4, 0, 1);
        on.refused(t, "one with HALF", () -> t.work(1, 2, 0, 1));
        on.yes("one with PIECE", t.work(1, 2, 2, 1));
        on.yes("a LEARNER of the same anew", t.work(1, 2, 2, 2));
        t.work(3, 1, 0, 1);
        on.yes("a LEARNER of another", t.work(1, 2, 3, 1));
        on.is("that one", t.personOf(1, 6), 3);
    }
}
