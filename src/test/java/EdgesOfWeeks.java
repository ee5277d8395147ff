/** Edges that are named by part III of Terms and by promises 19 to 29. */
final class EdgesOfWeeks {
    private static final int NONE = MillTown.NONE;

    private EdgesOfWeeks() {
    }

    static void all(Edges e) {
        e.of("III", "ORDERS 0 .. 79", EdgesOfWeeks::orderNumbers);
        e.of("III", "PIECES (1 .. 500)", on -> on.range("PIECES", 1, 500, v -> new MillTown().order(0, v, 1, 0, 0) == 0));
        e.of("III", "a PRICE for each (1 .. 10000)",
                on -> on.range("PRICE", 1, 10000, v -> new MillTown().order(0, 1, v, 0, 0) == 0));
        e.of("III", "RAIL (0 .. 1000 a PIECE; at first 0)", EdgesOfWeeks::rail);
        e.of("III", "DEAR (1 .. 100000; at first 100000)", EdgesOfWeeks::dear);
        e.of("III", "LEVY (0 .. 50)", on -> on.range("LEVY", 0, 50, v -> new MillTown().fund(0, v, 0)));
        e.of("III", "RELIEF (0 .. 500)", on -> on.range("RELIEF", 0, 500, v -> new MillTown().fund(0, 0, v)));
        orders(e);
        work(e);
        coins(e);
        homes(e);
        promises(e);
    }

    private static void orders(Edges e) {
        e.of("III", "Each MILL by numbers, not CLOSED or STRUCK", EdgesOfWeeks::millsThatRun);
        e.of("III", "the WEEK from which it is known, the last WEEK (both)", EdgesOfWeeks::knownWeeks);
        e.of("III", "with PIECES left that no MILL has TAKEN in this WEEK", EdgesOfWeeks::piecesLeft);
        e.of("III", "less YARN * PRICE of cotton / 400, cut.", EdgesOfWeeks::gainCut);
        e.of("III", "It goes by the one with the greatest GAIN", EdgesOfWeeks::greatestGain);
        e.of("III", "if that is LEAST or more", EdgesOfWeeks::leastGain);
        e.of("III", "of like ones the earliest last WEEK, then the lowest.", EdgesOfWeeks::likeGains);
        e.of("III", "It TAKES the lesser of CAN and what is left.", EdgesOfWeeks::lesser);
        e.of("III", "It runs FULL if twice what it TAKES is CAN or more", EdgesOfWeeks::twiceTaken);
        e.of("III", "cotton is not above DEAR, else HALF", EdgesOfWeeks::dearCotton);
        e.of("III", "it STOPS without an ORDER", EdgesOfWeeks::noOrder);
        e.of("III", "if CAN is 0 it STOPS and has none in this WEEK", EdgesOfWeeks::canOfNone);
        e.of("III", "If the KIND isn't that of the MILL's last ORDER, REST of its weavers is 0 from then on (ahead of CAN; that"
                + " KIND is the last one then, also if CAN is 0).", EdgesOfWeeks::anotherKind);
    }

    private static void work(Edges e) {
        e.of("III", "of its AGE at its MILL if that runs FULL, half of it (cut) if HALF, else 0.", EdgesOfWeeks::halfHours);
        e.of("III", "(REST + POINTS) / COST PIECES, cut", EdgesOfWeeks::piecesCut);
        e.of("III", "not more than is left of what the MILL TOOK", EdgesOfWeeks::leftOfTaken);
        e.of("III", "as long as that isn't enough for these, the MILL buys a bale, 360 pounds", EdgesOfWeeks::bales);
        e.of("III", "for the PRICE of cotton, if its COINS are that or more", EdgesOfWeeks::coinsForBales);
        e.of("III", "REST: what is over, COST - 1 at most.", EdgesOfWeeks::restAtMost);
        e.of("III", "LEARNER: a third of that, cut, the rest is its teacher's", EdgesOfWeeks::thirds);
    }

    private static void coins(Edges e) {
        e.of("III", "A MILL with COINS below 0 then is CLOSED from the next WEEK on.", EdgesOfWeeks::coinsBelowZero);
        e.of("III", "Of each PERSON with WAGES of LEVY or more the FUND gets LEVY of them.", EdgesOfWeeks::levies);
        e.of("III", "gets RELIEF, by numbers, as long as the FUND has that", EdgesOfWeeks::reliefs);
        e.of("III", "that counts among its WAGES then (no LEVY)", EdgesOfWeeks::noLevyOfRelief);
    }

    private static void homes(Edges e) {
        e.of("III", "HOMES by numbers, not GONE: WAGES come in (EARNED).", EdgesOfWeeks::homesByNumbers);
        e.of("III", "NEED: 4 loaves for each of AGE 13 or more, 2 for others.", EdgesOfWeeks::needs);
        e.of("III", "It buys as many as it NEEDS and can pay", EdgesOfWeeks::canPay);
        e.of("III", "if its SHOP isn't FAILED", EdgesOfWeeks::failedShops);
        e.of("III", "has the PRICE", EdgesOfWeeks::shopsCoins);
        e.of("III", "DEBT with it is not above TRUST * (EARNED in this WEEK and the three ahead) / 400, cut",
                EdgesOfWeeks::debtsAtMost);
        e.of("III", "EARNED in this WEEK and the three ahead", EdgesOfWeeks::earnedAhead);
        e.of("III", "What it lacks still is HUNGER. If it lacked nothing it pays of its DEBT what it can",
                EdgesOfWeeks::paysDebt);
        e.of("III", "(to the SHOP, FAILED or not)", EdgesOfWeeks::paysFailed);
        e.of("III", "SHOPS by numbers, not FAILED: RENT is paid; COINS below 0: it is FAILED.", EdgesOfWeeks::rents);
        e.of("III", "A HOME with HUNGER in this WEEK and the three ahead is GONE (from then on): its PERSONS' WORK ends.",
                EdgesOfWeeks::gone);
    }

    private static void promises(Edges e) {
        e.of(19, "An ORDER: its number (from not ahead of the clock, to not below it).", EdgesOfWeeks::orderWeeks);
        e.of(19, "NONE for others, or if there are 80.", EdgesOfWeeks::orderRefused);
        e.of(20, "False, changing nothing, for others.", EdgesOfWeeks::termsRefused);
        e.of(21, "The FUND's COINS come so many more (0 .. 100000)", EdgesOfWeeks::fundTold);
        e.of(21, "False, changing nothing, for others.", EdgesOfWeeks::fundRefused);
        e.of(22, "False: others, CLOSED, or it is so.", EdgesOfWeeks::strikeRefused);
        e.of(23, "n WEEKS go by (1 .. 52): the clock.", on -> on.range("weeks", 1, 52, v -> new MillTown().weeks(v) == v));
        e.of(23, "NONE for others, or beyond 400.", EdgesOfWeeks::weeksRefused);
        e.of(24, "6 the KIND of its last ORDER (NONE)", EdgesOfWeeks::lastKind);
        e.of(24, "7 how it ran in the latest WEEK (0 STOP, 1 HALF, 2 FULL), 8 the ORDER then (NONE), 9 PIECES then.",
                EdgesOfWeeks::latestWeek);
        e.of(24, "NONE for others.",
                on -> others(on, "millOf", 8, (t, i, what) -> t.millOf(i, what), 60, 0, 0, 0, 0, 0, NONE, 0, NONE, 0));
        e.of(25, "5 EARNED, 6 HUNGER in the latest WEEK.", EdgesOfWeeks::latestOfHomes);
        e.of(25, "NONE for others.",
                on -> others(on, "homeOf", 24, (t, i, what) -> t.homeOf(i, what), 50, 0, 0, 0, 0, 0, 0));
        e.of(26, "4 its MILL (NONE), 5 n of its WORK, 6 its teacher (NONE)", EdgesOfWeeks::worksOfPersons);
        e.of(26, "8 WAGES (LEVY off) of the latest WEEK.", EdgesOfWeeks::latestWages);
        e.of(26, "NONE for others.",
                on -> others(on, "personOf", 60, (t, i, what) -> t.personOf(i, what), 0, 30, 5, 0, NONE, 0, NONE, 0, 0));
        e.of(27, "1 DEBTS there together, 2 FAILED (1, 0).", EdgesOfWeeks::debtsTogether);
        e.of(27, "NONE for others.", on -> others(on, "shopOf", 4, (t, i, what) -> t.shopOf(i, what), 50, 0, 0));
        e.of(28, "1 PIECES left", EdgesOfWeeks::leftOfOrders);
        e.of(28, "NONE for others.",
                on -> others(on, "orderOf", 80, (t, i, what) -> t.orderOf(i, what), 5, 50, 51, 52, 53));
        e.of(29, "of a HOME in a WEEK that is over. NONE for others.", EdgesOfWeeks::bookRefused);
    }

    interface Fact {
        int of(MillTown t, int i, int what);
    }

    /** As many as there can be of everything: the last is asked, and one ahead of the first and behind the last. */
    private static void others(Edge on, String call, int count, Fact fact, int... due) {
        MillTown none = new MillTown();
        on.none(none, call + " of the first ahead of any", () -> fact.of(none, 0, 0));
        MillTown t = new MillTown();
        for (int i = 0; i < 80; i++) {
            t.mill(60, 100, 0, 0);
            t.shop(50, 0, 0);
            t.home(0, 50);
            t.person(0, 30, 5);
            t.order(5, 50, 51, 52, 53);
        }
        int last = count - 1;
        int whats = due.length;
        int[][] others = {{-1, 0}, {count, 0}, {0, -1}, {0, whats}, {last, -1}, {last, whats}, {Integer.MIN_VALUE, 0},
            {Integer.MAX_VALUE, 0}, {0, Integer.MIN_VALUE}, {0, Integer.MAX_VALUE}};
        for (int[] o : others) {
            on.none(t, call + "(" + o[0] + ", " + o[1] + ")", () -> fact.of(t, o[0], o[1]));
        }
        for (int what = 0; what < whats; what++) {
            on.is(call + "(" + last + ", " + what + ")", fact.of(t, last, what), due[what]);
        }
        on.is(call + "(0, 0)", fact.of(t, 0, 0), due[0]);
    }

    /**
     * A MILL with so many coins, a SHOP that trusts nobody, a HOME, and a weaver who makes 6 PIECES of 18000 in a full
     * WEEK, with 12000 over.
     */
    private static MillTown weaving(int coins, int least) {
        MillTown t = new MillTown();
        t.mill(12, 100, coins, least);
        t.shop(0, 0, 0);
        t.home(0, 10000);
        t.person(0, 30, 5);
        t.work(0, 1, 0, 4);
        return t;
    }

    private static void orderNumbers(Edge on) {
        MillTown t = new MillTown();
        on.is("ORDER 0 ahead of any", t.orderOf(0, 0), NONE);
        for (int order = 0; order < 80; order++) {
            on.is("ORDER " + order, t.order(0, 1 + order, 1, 0, 0), order);
            on.is("none behind it", t.orderOf(order + 1, 0), NONE);
        }
        on.is("PIECES of the first", t.orderOf(0, 1), 1);
        on.is("PIECES of the last", t.orderOf(79, 1), 80);
        on.is("an ORDER -1", t.orderOf(-1, 0), NONE);
        on.is("an 81st", t.order(0, 1, 1, 0, 0), NONE);
    }

    private static void rail(Edge on) {
        on.is("RAIL at first", new MillTown().about(13), 0);
        on.range("RAIL", 0, 1000, v -> {
            MillTown t = new MillTown();
            return t.terms(v, 5) && t.about(13) == v;
        });
        for (int rail = 99; rail <= 101; rail++) {
            MillTown t = weaving(5000, -1000);
            t.order(0, 6, 100, 0, 0);
            t.terms(rail, 100000);
            t.weeks(1);
            on.is("COINS with a RAIL of " + rail, t.millOf(0, 2), 4000 + 6 * (100 - rail));
        }
    }

    private static void dear(Edge on) {
        on.is("DEAR at first", new MillTown().about(14), 100000);
        on.range("DEAR", 1, 100000, v -> {
            MillTown t = new MillTown();
            return t.terms(5, v) && t.about(14) == v;
        });
        MillTown t = weaving(1000000, -1000);
        t.kind(0, 60, 30, 1, 0, 0);
        t.price(0, 0, 100000);
        t.order(0, 6, 100, 0, 0);
        t.weeks(1);
        on.is("cotton at 100000 is not above DEAR at first", t.millOf(0, 7), 2);
    }

    private static void millsThatRun(Edge on) {
        MillTown t = weaving(5000, -1000);
        t.mill(4, 100, 5000, -1000);
        t.person(0, 30, 5);
        t.work(1, 1, 1, 4);
        t.order(0, 6, 100, 0, 0);
        t.order(0, 6, 100, 1, 1);
        t.order(0, 6, 100, 2, 2);
        t.weeks(1);
        on.is("MILL 0 is first", t.millOf(0, 8), 0);
        on.is("MILL 1 has none left", t.millOf(1, 8), NONE);
        t.strike(0, true);
        t.weeks(1);
        on.is("MILL 0 is STRUCK", t.millOf(0, 8), NONE);
        on.is("it STOPS", t.millOf(0, 7), 0);
        on.is("MILL 1 is next", t.millOf(1, 8), 1);
        t.strike(0, false);
        t.weeks(1);
        on.is("MILL 0 is first again", t.millOf(0, 8), 2);
        MillTown closed = closing(3399);
        closed.order(0, 6, 100, 1, 1);
        closed.weeks(1);
        on.is("a MILL that is CLOSED", closed.millOf(0, 8), NONE);
        MillTown open = closing(3400);
        open.price(0, 1, 1);
        open.order(0, 6, 100, 1, 1);
        open.weeks(1);
        on.is("a MILL with 0 COINS", open.millOf(0, 8), 1);
    }

    /** The WEEK's bale and day hand take 3400 coins more than its PIECES bring. */
    private static MillTown closing(int coins) {
        MillTown t = weaving(coins, -1000);
        t.person(0, 30, 1);
        t.work(1, 3, 0, 50);
        t.order(0, 6, 100, 0, 0);
        t.weeks(1);
        return t;
    }

    private static void knownWeeks(Edge on) {
        MillTown t = weaving(5000, -1000);
        t.order(0, 50, 100, 2, 4);
        int[] due = {NONE, NONE, 0, 0, 0, NONE, NONE};
        for (int week = 0; week < due.length; week++) {
            t.weeks(1);
            on.is("the ORDER in WEEK " + week, t.millOf(0, 8), due[week]);
        }
        on.is("its PIECES left", t.orderOf(0, 1), 50 - 20);
        t.order(0, 50, 100, 8, 8);
        t.weeks(1);
        on.is("ahead of one WEEK", t.millOf(0, 8), NONE);
        t.weeks(1);
        on.is("in one WEEK", t.millOf(0, 8), 1);
        t.weeks(1);
        on.is("behind one WEEK", t.millOf(0, 8), NONE);
    }

    private static MillTown twoMills() {
        MillTown t = weaving(5000, -1000);
        t.mill(4, 100, 5000, -1000);
        t.person(0, 30, 5);
        t.work(1, 1, 1, 4);
        return t;
    }

    private static void piecesLeft(Edge on) {
        int[][] due = {{5, 5, NONE, 0}, {6, 6, NONE, 0}, {7, 6, 0, 1}, {8, 6, 0, 2}, {13, 6, 0, 6}};
        for (int[] d : due) {
            MillTown t = twoMills();
            t.order(0, d[0], 100, 0, 3);
            t.weeks(1);
            on.is("MILL 0 of " + d[0], t.millOf(0, 9), d[1]);
            on.is("the ORDER of MILL 1", t.millOf(1, 8), d[2]);
            on.is("MILL 1 of " + d[0], t.millOf(1, 9), d[3]);
            t.weeks(1);
            on.is("the ORDER of MILL 0 in the next WEEK", t.millOf(0, 8), d[0] == 13 ? 0 : NONE);
        }
    }

    /** PRICE 100, PAY 20, YARN 10: 10 * 1000 / 400 are 25, 10 * 1039 / 400 are 25 and nearly 1. */
    private static void gainCut(Edge on) {
        int[][] due = {{999, 56}, {1000, 55}, {1001, 55}, {1039, 55}, {1040, 54}, {1041, 54}, {39, 80}, {40, 79}, {1, 80}};
        for (int[] d : due) {
            for (int least = d[1] - 1; least <= d[1] + 1; least++) {
                MillTown t = weaving(5000, least);
                Due.enforce(t, "price 20;");
                t.price(0, 0, d[0]);
                t.order(0, 6, 100, 0, 0);
                t.weeks(1);
                on.is("cotton at " + d[0] + ", LEAST " + least, t.millOf(0, 8), least <= d[1] ? 0 : NONE);
            }
        }
    }

    private static void greatestGain(Edge on) {
        int[][] due = {{99, 100, 1}, {100, 100, 0}, {101, 100, 0}, {100, 101, 1}};
        for (int[] d : due) {
            MillTown t = weaving(5000, -1000);
            t.order(0, 6, d[0], 0, 3);
            t.order(0, 6, d[1], 0, 3);
            t.weeks(1);
            on.is(d[0] + " or " + d[1], t.millOf(0, 8), d[2]);
        }
        // KIND 1 takes 20 pounds more: 50 coins at 1000 a bale.
        for (int price = 149; price <= 151; price++) {
            MillTown t = weaving(5000, -1000);
            t.kind(1, 60, 30, 30, 0, 0);
            t.order(0, 6, 100, 0, 3);
            t.order(1, 6, price, 0, 2);
            t.weeks(1);
            on.is("with more YARN, for " + price, t.millOf(0, 8), price < 150 ? 0 : 1);
        }
        MillTown loss = weaving(5000, -1000);
        loss.terms(1000, 100000);
        loss.order(0, 6, 98, 0, 3);
        loss.order(0, 6, 99, 0, 3);
        loss.weeks(1);
        on.is("the lesser loss", loss.millOf(0, 8), 1);
    }

    private static void leastGain(Edge on) {
        int[][] due = {{74, 0}, {75, 0}, {76, NONE}};
        for (int[] d : due) {
            MillTown t = weaving(5000, d[0]);
            t.order(0, 6, 100, 0, 0);
            t.weeks(1);
            on.is("a GAIN of 75, LEAST " + d[0], t.millOf(0, 8), d[1]);
        }
        int[][] losses = {{24, NONE}, {25, 0}, {26, 0}};
        for (int[] d : losses) {
            MillTown t = weaving(5000, -1000);
            t.terms(1000, 100000);
            t.order(0, 6, d[0], 0, 0);
            t.weeks(1);
            on.is("a GAIN of " + (d[0] - 1025) + ", LEAST -1000", t.millOf(0, 8), d[1]);
        }
        MillTown none = weaving(5000, 0);
        none.order(0, 6, 24, 0, 0);
        none.order(0, 6, 25, 0, 0);
        none.weeks(1);
        on.is("a GAIN of 0, LEAST 0", none.millOf(0, 8), 1);
    }

    private static void likeGains(Edge on) {
        int[][] due = {{4, 5, 0}, {5, 5, 0}, {6, 5, 1}};
        for (int[] d : due) {
            MillTown t = weaving(5000, -1000);
            t.order(0, 6, 100, 0, d[0]);
            t.order(0, 6, 100, 0, d[1]);
            t.order(0, 6, 100, 0, 6);
            t.weeks(1);
            on.is("to " + d[0] + " or to " + d[1], t.millOf(0, 8), d[2]);
        }
        MillTown more = weaving(5000, -1000);
        more.order(0, 6, 99, 0, 0);
        more.order(0, 6, 100, 0, 9);
        more.weeks(1);
        on.is("not of unlike ones", more.millOf(0, 8), 1);
        MillTown first = weaving(5000, -1000);
        first.order(0, 6, 100, 0, 9);
        first.order(0, 6, 99, 0, 0);
        first.weeks(1);
        on.is("not of unlike ones, the first", first.millOf(0, 8), 0);
    }

    private static void lesser(Edge on) {
        int[][] due = {{1, 1}, {5, 5}, {6, 6}, {7, 6}, {500, 6}};
        for (int[] d : due) {
            MillTown t = weaving(5000, -1000);
            t.order(0, d[0], 100, 0, 0);
            t.weeks(1);
            on.is("PIECES of " + d[0], t.millOf(0, 9), d[1]);
            on.is("left of " + d[0], t.orderOf(0, 1), d[0] - d[1]);
            MillTown two = twoMills();
            two.order(0, d[0], 100, 0, 0);
            two.weeks(1);
            on.is("what it TAKES is there for no other, of " + d[0], two.millOf(1, 9), Math.min(6, d[0] - d[1]));
        }
    }

    private static void twiceTaken(Edge on) {
        int[][] six = {{1, 1}, {2, 1}, {3, 2}, {4, 2}, {6, 2}, {7, 2}};
        for (int[] d : six) {
            MillTown t = weaving(5000, -1000);
            t.order(0, d[0], 100, 0, 0);
            t.weeks(1);
            on.is("CAN 6, " + d[0] + " are left", t.millOf(0, 7), d[1]);
        }
        // With 12000 over from the WEEK ahead it can make 7.
        int[][] seven = {{3, 1}, {4, 2}, {5, 2}};
        for (int[] d : seven) {
            MillTown t = weaving(5000, -1000);
            t.order(0, 6, 100, 0, 0);
            t.order(0, d[0], 100, 1, 1);
            t.weeks(2);
            on.is("CAN 7, " + d[0] + " are left", t.millOf(0, 7), d[1]);
        }
    }

    private static void dearCotton(Edge on) {
        int[][] due = {{998, 1}, {999, 1}, {1000, 2}, {1001, 2}};
        for (int[] d : due) {
            MillTown t = weaving(5000, -1000);
            t.terms(0, d[0]);
            t.order(0, 6, 100, 0, 0);
            t.weeks(1);
            on.is("cotton at 1000, DEAR " + d[0], t.millOf(0, 7), d[1]);
            on.is("PIECES", t.millOf(0, 9), d[1] * 3);
        }
    }

    private static void noOrder(Edge on) {
        MillTown t = weaving(5000, -1000);
        t.person(0, 30, 1);
        t.work(1, 3, 0, 1);
        t.order(0, 6, 100, 1, 1);
        t.weeks(1);
        on.is("it STOPS", t.millOf(0, 7), 0);
        on.is("its ORDER", t.millOf(0, 8), NONE);
        on.is("its day hand", t.personOf(1, 8), 0);
        t.weeks(1);
        on.is("it runs", t.millOf(0, 7), 2);
        on.is("its ORDER", t.millOf(0, 8), 0);
        on.is("its day hand", t.personOf(1, 8), 60);
        t.weeks(1);
        on.is("it STOPS", t.millOf(0, 7), 0);
        on.is("its ORDER", t.millOf(0, 8), NONE);
        on.is("its day hand", t.personOf(1, 8), 0);
    }

    /** 300 POINTS an hour for a PIECE of 18000: 60 hours make just one. */
    private static MillTown hourly(int hours) {
        MillTown t = new MillTown();
        t.mill(12, 50, 5000, -1000);
        t.shop(0, 0, 0);
        t.home(0, 10000);
        t.person(0, 30, 6);
        t.work(0, 1, 0, 1);
        Due.enforce(t, "price 20; age 30 to 30 hours " + hours + "; age 40 to 40 hours 60;");
        return t;
    }

    private static void canOfNone(Edge on) {
        for (int hours = 59; hours <= 61; hours++) {
            MillTown t = hourly(hours);
            t.person(0, 40, 1);
            t.work(1, 3, 0, 1);
            t.order(0, 6, 100, 0, 3);
            t.weeks(1);
            on.is("how it runs with " + hours, t.millOf(0, 7), hours < 60 ? 0 : 2);
            on.is("its ORDER", t.millOf(0, 8), hours < 60 ? NONE : 0);
            on.is("its PIECES", t.millOf(0, 9), hours < 60 ? 0 : 1);
            on.is("its day hand", t.personOf(1, 8), hours < 60 ? 0 : 60);
            on.is("REST", t.personOf(0, 7), hours < 60 ? 0 : (hours - 60) * 300);
        }
        MillTown none = new MillTown();
        none.mill(1, 100, 5000, -1000);
        none.order(0, 6, 100, 0, 3);
        none.weeks(1);
        on.is("without weavers", none.millOf(0, 8), NONE);
        MillTown two = twoMills();
        two.work(0, 0, 0, 0);
        two.order(0, 6, 100, 0, 3);
        two.weeks(1);
        on.is("what it doesn't TAKE is there for the next", two.millOf(1, 9), 6);
    }

    /** A weaver of 15000 POINTS is left alone behind a WEEK in which a stronger one made PIECES of KIND 0. */
    private static void anotherKind(Edge on) {
        for (int kind = 0; kind < 2; kind++) {
            MillTown t = weaving(5000, -1000);
            t.person(0, 40, 5);
            t.work(1, 1, 0, 1);
            Due.enforce(t, "price 20; age 30 to 30 hours 60; age 40 to 40 hours 30;");
            t.order(0, 6, 100, 0, 0);
            t.order(kind, 6, 100, 1, 1);
            t.weeks(1);
            on.is("REST behind KIND 0", t.personOf(1, 7), 15000);
            t.work(0, 0, 0, 0);
            t.weeks(1);
            on.is("PIECES of KIND " + kind, t.millOf(0, 9), 1 - kind);
            on.is("its ORDER", t.millOf(0, 8), kind == 0 ? 1 : NONE);
            on.is("the KIND of its last ORDER", t.millOf(0, 6), kind);
            on.is("REST", t.personOf(1, 7), kind == 0 ? 12000 : 0);
        }
        MillTown between = weaving(5000, -1000);
        between.order(0, 6, 100, 0, 0);
        between.order(0, 500, 100, 2, 2);
        between.order(1, 500, 100, 3, 3);
        between.weeks(3);
        on.is("the same KIND behind a WEEK without", between.millOf(0, 9), 7);
        on.is("REST then", between.personOf(0, 7), 6000);
        between.weeks(1);
        on.is("another KIND", between.millOf(0, 9), 6);
        MillTown two = twoMills();
        two.order(0, 12, 100, 0, 0);
        two.order(1, 6, 100, 1, 1);
        two.weeks(2);
        on.is("REST at the MILL with another KIND", two.personOf(0, 7), 12000);
        on.is("REST at the other MILL", two.personOf(1, 7), 12000);
    }

    private static void halfHours(Edge on) {
        int[][] due = {{0, 0}, {1, 0}, {2, 1}, {59, 29}, {60, 30}, {61, 30}, {62, 31}, {80, 40}};
        for (int[] d : due) {
            for (int run = 0; run <= 2; run++) {
                MillTown t = weaving(9000, -1000);
                t.person(0, 40, 1);
                t.work(1, 3, 0, 1);
                t.person(0, 15, 1);
                t.work(2, 4, 0, 2);
                Due.enforce(t, "price 1; age 15 to 15 hours " + d[0] + "; age 30 to 30 hours 60; age 40 to 40 hours " + d[0]
                        + ";");
                t.order(0, 6, 100, run == 0 ? 1 : 0, 1);
                t.terms(0, run == 1 ? 999 : 1000);
                t.weeks(1);
                int hours = run == 0 ? 0 : run == 1 ? d[1] : d[0];
                on.is("DAY of " + d[0] + " hours, run " + run, t.personOf(1, 8), hours);
                on.is("HALF of " + d[0] + " hours, run " + run, t.personOf(2, 8), 2 * hours);
            }
        }
    }

    /** Beside a strong weaver: 300 POINTS an hour for a PIECE of 18000. */
    private static void piecesCut(Edge on) {
        int[][] due = {{59, 0, 17700}, {60, 1, 0}, {61, 1, 300}, {80, 1, 6000}, {0, 0, 0}};
        for (int[] d : due) {
            MillTown t = hourly(d[0]);
            t.person(0, 40, 10);
            t.work(1, 1, 0, 6);
            t.order(0, 500, 100, 0, 3);
            t.weeks(1);
            on.is("PIECES of " + d[0] + " hours", t.personOf(0, 8), d[1] * 20);
            on.is("REST of " + d[0] + " hours", t.personOf(0, 7), d[2]);
        }
        // 2 * 17700 are 1 PIECE with 17400 over; 3 * 17700 less one are 35100: 1 again.
        MillTown t = hourly(59);
        t.person(0, 40, 10);
        t.work(1, 1, 0, 6);
        t.order(0, 500, 100, 0, 3);
        int[][] weeks = {{0, 17700}, {1, 17400}, {1, 17100}};
        for (int[] d : weeks) {
            t.weeks(1);
            on.is("PIECES with REST", t.personOf(0, 8), d[0] * 20);
            on.is("REST then", t.personOf(0, 7), d[1]);
        }
        // With HARD a PIECE costs more: 60 * 30 * 11 are 19800, 66 hours.
        for (int hours = 65; hours <= 67; hours++) {
            MillTown hard = hourly(hours);
            hard.kind(1, 60, 30, 10, 1, 0);
            hard.order(1, 6, 100, 0, 0);
            hard.weeks(1);
            on.is("PIECES of KIND 1 in " + hours, hard.millOf(0, 9), hours < 66 ? 0 : 1);
        }
    }

    private static void leftOfTaken(Edge on) {
        int[][] due = {{5, 3, 2}, {6, 6, 0}, {7, 6, 1}, {11, 6, 5}, {12, 6, 6}, {13, 6, 6}};
        for (int[] d : due) {
            MillTown t = weaving(5000, -1000);
            t.person(0, 30, 5);
            t.work(1, 1, 0, 4);
            Due.enforce(t, "price 1;");
            t.order(0, d[0], 100, 0, 0);
            t.weeks(1);
            on.is("the first of " + d[0], t.personOf(0, 8), d[1]);
            on.is("the second of " + d[0], t.personOf(1, 8), d[2]);
        }
    }

    /** Two weavers can make 40 PIECES of 10 pounds; a bale is enough for 36. */
    private static MillTown spinning(int coins, int pieces) {
        MillTown t = new MillTown();
        t.mill(12, 200, coins, -1000);
        t.shop(0, 0, 0);
        t.home(0, 10000);
        t.person(0, 30, 5);
        t.person(0, 30, 5);
        t.work(0, 1, 0, 6);
        t.work(1, 1, 0, 6);
        t.order(0, pieces, 100, 0, 0);
        t.weeks(1);
        return t;
    }

    private static void bales(Edge on) {
        int[][] due = {{35, 1, 10}, {36, 1, 0}, {37, 2, 350}, {40, 2, 320}};
        for (int[] d : due) {
            MillTown t = spinning(9000, d[0]);
            on.is("PIECES of " + d[0], t.millOf(0, 9), d[0]);
            on.is("COINS less bales for " + d[0], t.millOf(0, 2), 9000 - d[1] * 1000 + d[0] * 100);
            on.is("YARN behind " + d[0], t.millOf(0, 3), d[2]);
        }
        // What is in store is used first: 300 pounds are enough for 30 PIECES of the next WEEK.
        for (int pieces = 6; pieces <= 8; pieces++) {
            MillTown t = weaving(5000, -1000);
            t.kind(0, 60, 30, 50, 0, 0);
            t.kind(1, 60, 30, 10, 0, 0);
            t.order(1, 6, 100, 0, 0);
            t.order(0, pieces, 100, 1, 1);
            t.weeks(2);
            on.is("PIECES of 50 pounds of " + pieces, t.millOf(0, 9), 6);
            on.is("YARN then", t.millOf(0, 3), 0);
            on.is("COINS then", t.millOf(0, 2), 5000 - 1000 + 600 + 600);
        }
        // One weaver's 20 PIECES of 35, 36 and 37 pounds: 700, 720 and 740.
        int[][] pounds = {{35, 2, 20}, {36, 2, 0}, {37, 3, 340}};
        for (int[] d : pounds) {
            MillTown t = strong(d[0], 9000);
            on.is("PIECES of " + d[0] + " pounds", t.millOf(0, 9), 20);
            on.is("COINS less bales", t.millOf(0, 2), 9000 - d[1] * 1000 + 2000);
            on.is("YARN then", t.millOf(0, 3), d[2]);
        }
        // 19 PIECES of 19 pounds: one pound more than a bale.
        MillTown more = weaving(9000, -1000);
        more.kind(0, 10, 20, 19, 0, 0);
        more.order(0, 19, 100, 0, 0);
        more.weeks(1);
        on.is("PIECES of 361 pounds", more.millOf(0, 9), 19);
        on.is("YARN then", more.millOf(0, 3), 720 - 361);
        on.is("COINS less two bales", more.millOf(0, 2), 9000 - 2000 + 1900);
        onePoundLacks(on);
        MillTown none = spinning(9000, 500);
        none.order(0, 32, 100, 1, 1);
        none.order(0, 1, 100, 2, 2);
        int coins = none.millOf(0, 2);
        none.weeks(1);
        on.is("just what is in store", none.millOf(0, 3), 0);
        on.is("no bale", none.millOf(0, 2), coins + 3200);
        none.weeks(1);
        on.is("one PIECE more", none.millOf(0, 3), 350);
        on.is("one bale", none.millOf(0, 2), coins + 3200 - 1000 + 100);
    }

    /** The first weaver uses up a bale by 360 PIECES of one pound; the second lacks one for the last. */
    private static void onePoundLacks(Edge on) {
        MillTown t = new MillTown();
        t.kind(0, 10, 20, 1, 0, 0);
        t.mill(7, 200, 9000, -1000);
        t.shop(0, 0, 0);
        t.home(0, 10000);
        t.person(0, 30, 10);
        t.work(0, 1, 0, 6);
        t.person(0, 30, 1);
        t.work(1, 1, 0, 1);
        t.order(0, 361, 100, 0, 0);
        t.weeks(1);
        on.is("PIECES of a pound", t.millOf(0, 9), 361);
        on.is("YARN behind the last", t.millOf(0, 3), 359);
        on.is("COINS less both bales", t.millOf(0, 2), 9000 - 2000 + 36100);
    }

    /** One weaver can make 20 PIECES of so many pounds. */
    private static MillTown strong(int pounds, int coins) {
        MillTown t = new MillTown();
        t.kind(0, 60, 30, pounds, 0, 0);
        t.mill(6, 200, coins, -1000);
        t.shop(0, 0, 0);
        t.home(0, 10000);
        t.person(0, 30, 5);
        t.work(0, 1, 0, 6);
        t.order(0, 20, 100, 0, 0);
        t.weeks(1);
        return t;
    }

    private static void coinsForBales(Edge on) {
        // 720 pounds lack: as many bales of the two as there are COINS for.
        int[][] strong = {{999, 0, 0}, {1000, 10, 1}, {1999, 10, 1}, {2000, 20, 2}, {2001, 20, 2}};
        for (int[] d : strong) {
            MillTown t = strong(36, d[0]);
            on.is("PIECES of 36 pounds with COINS " + d[0], t.millOf(0, 9), d[1]);
            on.is("COINS then", t.millOf(0, 2), d[0] - d[2] * 1000 + d[1] * 100);
            on.is("YARN then", t.millOf(0, 3), 0);
        }
        int[][] due = {{0, 0}, {999, 0}, {1000, 36}, {1001, 36}, {1999, 36}, {2000, 40}, {2001, 40}};
        for (int[] d : due) {
            MillTown t = spinning(d[0], 40);
            on.is("PIECES with COINS " + d[0], t.millOf(0, 9), d[1]);
            int bales = d[1] == 0 ? 0 : d[1] == 36 ? 1 : 2;
            on.is("COINS then", t.millOf(0, 2), d[0] - bales * 1000 + d[1] * 100);
            on.is("YARN then", t.millOf(0, 3), bales * 360 - d[1] * 10);
            on.is("it ran", t.millOf(0, 7), 2);
        }
        cheapCotton(on);
    }

    /** The least that a bale can cost. */
    private static void cheapCotton(Edge on) {
        for (int coins = 0; coins <= 2; coins++) {
            MillTown t = weaving(coins, -1000);
            t.price(0, 0, 1);
            t.order(0, 6, 100, 0, 0);
            t.weeks(1);
            on.is("PIECES of cotton at 1 with COINS " + coins, t.millOf(0, 9), coins < 1 ? 0 : 6);
            on.is("COINS then", t.millOf(0, 2), coins < 1 ? 0 : coins - 1 + 600);
        }
    }

    /** A COST of 2541 and no YARN: a weaver of one LOOM, of SKILL 1, in 20 or 21 hours. */
    private static void restAtMost(Edge on) {
        int[][] due = {{126, 20, 2520}, {127, 20, 2540}, {121, 21, 2540}, {128, 20, 2540}, {200, 80, 2540}};
        for (int[] d : due) {
            MillTown t = new MillTown();
            t.kind(0, 11, 21, 1, 1, 0);
            t.mill(9, d[0], 0, -1000);
            t.shop(0, 0, 0);
            t.home(0, 10000);
            t.person(0, 30, 1);
            t.work(0, 1, 0, 1);
            t.person(0, 40, 10);
            t.work(1, 1, 0, 6);
            Due.enforce(t, "price 1; age 30 to 30 hours " + d[1] + "; age 40 to 40 hours 60;");
            t.order(0, 500, 100, 0, 1);
            t.weeks(1);
            on.is("nothing is made", t.millOf(0, 9), 0);
            on.is("REST of " + d[0] * d[1], t.personOf(0, 7), d[2]);
            t.weeks(1);
            on.is("REST of a second WEEK", t.personOf(0, 7), 2540);
        }
        MillTown taken = weaving(5000, -1000);
        taken.order(0, 5, 100, 0, 0);
        taken.weeks(1);
        on.is("30000 over", taken.personOf(0, 7), 17999);
        MillTown all = weaving(5000, -1000);
        all.order(0, 6, 100, 0, 0);
        all.weeks(1);
        on.is("12000 over", all.personOf(0, 7), 12000);
    }

    private static void thirds(Edge on) {
        int[][] due = {{0, 0}, {1, 0}, {2, 0}, {3, 1}, {4, 1}, {5, 1}, {6, 2}, {9998, 3332}, {9999, 3333}};
        for (int[] d : due) {
            MillTown t = hourly(0);
            t.person(0, 40, 6);
            t.work(1, 2, 0, 1);
            Due.enforce(t, "price " + d[0] + ";");
            t.order(0, 1, 10000, 0, 0);
            t.weeks(1);
            on.is("the LEARNER's of " + d[0], t.personOf(1, 8), d[1]);
            on.is("the teacher's of " + d[0], t.personOf(0, 8), d[0] - d[1]);
        }
        MillTown both = weaving(5000, -1000);
        both.person(0, 40, 5);
        both.work(1, 2, 0, 2);
        Due.enforce(both, "price 7;");
        both.order(0, 500, 100, 0, 0);
        both.weeks(1);
        // 60000 POINTS make 3 PIECES, 21 coins.
        on.is("the LEARNER's of 21", both.personOf(1, 8), 7);
        on.is("the teacher's with its own 42", both.personOf(0, 8), 42 + 14);
    }

    private static void coinsBelowZero(Edge on) {
        for (int coins = 3399; coins <= 3401; coins++) {
            MillTown t = closing(coins);
            on.is("COINS", t.millOf(0, 2), coins - 3400);
            on.is("CLOSED with " + (coins - 3400), t.millOf(0, 4), coins < 3400 ? 1 : 0);
            on.is("it ran in the WEEK itself", t.millOf(0, 7), 2);
            on.is("its day hand is paid", t.personOf(1, 8), 3000);
            on.is("its PIECES count", t.orderOf(0, 1), 0);
            t.price(0, 1, 1);
            t.order(0, 6, 1000, 1, 1);
            t.weeks(1);
            on.is("it runs in the next WEEK", t.millOf(0, 7), coins < 3400 ? 0 : 2);
            on.is("COINS of the next WEEK", t.millOf(0, 2), coins < 3400 ? -1 : coins - 3400 - 3000 + 6000);
        }
    }

    /** Day hands for a coin an hour, of ages 15 to 17, with 49, 50 and 51 hours. */
    private static MillTown dayHands(int levy) {
        MillTown t = weaving(9000, -1000);
        for (int age = 15; age <= 17; age++) {
            int person = t.person(0, age, 1);
            t.work(person, 3, 0, 1);
        }
        Due.enforce(t, "price 0; age 15 to 15 hours 49; age 16 to 16 hours 50; age 17 to 17 hours 51; age 30 to 30 hours 60;");
        t.order(0, 6, 100, 0, 0);
        t.fund(0, levy, 0);
        t.weeks(1);
        return t;
    }

    private static void levies(Edge on) {
        int[][] due = {{50, 49, 0, 1, 100}, {49, 0, 1, 2, 147}, {0, 49, 50, 51, 0}, {1, 48, 49, 50, 3}};
        for (int[] d : due) {
            MillTown t = dayHands(d[0]);
            for (int p = 1; p <= 3; p++) {
                on.is("WAGES of " + (48 + p) + ", LEVY " + d[0], t.personOf(p, 8), d[p]);
            }
            on.is("WAGES of 0", t.personOf(0, 8), 0);
            on.is("the FUND", t.about(8), d[4]);
            on.is("EARNED", t.homeOf(0, 5), d[1] + d[2] + d[3]);
        }
    }

    private static void reliefs(Edge on) {
        int[][] due = {{29, 0, 0, 29}, {30, 30, 0, 0}, {31, 30, 0, 1}, {59, 30, 0, 29}, {60, 30, 30, 0}, {61, 30, 30, 1},
            {90, 30, 30, 30}};
        for (int[] d : due) {
            MillTown t = weaving(9000, -1000);
            t.person(0, 15, 1);
            t.person(0, 30, 1);
            t.person(0, 30, 1);
            t.mill(1, 100, 0, 0);
            t.work(1, 4, 0, 1);
            t.work(3, 3, 1, 1);
            t.strike(0, true);
            t.fund(d[0], 0, 30);
            t.weeks(1);
            on.is("the first with a FUND of " + d[0], t.personOf(0, 8), d[1]);
            on.is("the second with a FUND of " + d[0], t.personOf(1, 8), d[2]);
            on.is("one without WORK", t.personOf(2, 8), 0);
            on.is("one at a MILL that isn't STRUCK", t.personOf(3, 8), 0);
            on.is("the FUND of " + d[0], t.about(8), d[3]);
        }
        MillTown none = weaving(9000, -1000);
        none.strike(0, true);
        none.fund(0, 0, 0);
        none.weeks(1);
        on.is("RELIEF of 0", none.about(8), 0);
    }

    private static void noLevyOfRelief(Edge on) {
        for (int relief = 49; relief <= 51; relief++) {
            MillTown t = twoMills();
            t.order(0, 6, 100, 0, 0);
            Due.enforce(t, "price 20;");
            t.strike(0, true);
            t.fund(0, 50, relief);
            t.weeks(1);
            // The LEVY of the weaver at MILL 1 is there for the one at MILL 0.
            on.is("RELIEF of " + relief, t.personOf(0, 8), relief <= 50 ? relief : 0);
            on.is("LEVY off", t.personOf(1, 8), 70);
            on.is("the FUND", t.about(8), relief <= 50 ? 50 - relief : 50);
            on.is("EARNED", t.homeOf(0, 5), 70 + (relief <= 50 ? relief : 0));
            on.is("the MILL doesn't pay it", t.millOf(0, 2), 5000);
        }
    }

    /** The SHOP has one loaf's coins: the first HOME gets it on TRUST. */
    private static void homesByNumbers(Edge on) {
        MillTown t = new MillTown();
        t.mill(9, 100, 9000, -1000);
        t.shop(50, 400, 0);
        for (int home = 0; home < 3; home++) {
            t.home(0, 0);
            t.person(home, 30, 5);
            t.work(home, 3, 0, 1);
        }
        t.person(2, 30, 5);
        t.work(3, 1, 0, 1);
        t.price(1, 0, 50);
        t.order(0, 1, 100, 0, 0);
        t.weeks(1);
        on.is("EARNED", t.homeOf(0, 5), 60);
        on.is("the first's DEBT", t.homeOf(0, 1), 50);
        on.is("the second's DEBT", t.homeOf(1, 1), 0);
        on.is("the first's HUNGER", t.homeOf(0, 6), 2);
        on.is("the second's HUNGER", t.homeOf(1, 6), 3);
        on.is("COINS", t.homeOf(1, 0), 10);
        MillTown gone = goneTown();
        on.is("one that is GONE buys nothing", gone.homeOf(0, 0), 5);
        on.is("nor hungers", gone.homeOf(0, 6), 0);
    }

    /** HOME 0 has 5 coins, a loaf costs 6: behind WEEK 3 it is GONE. In WEEK 4 a loaf costs 1. */
    private static MillTown goneTown() {
        MillTown t = new MillTown();
        t.mill(9, 100, 9000, -1000);
        t.shop(1000, 0, 0);
        t.home(0, 5);
        t.home(0, 1000);
        t.person(0, 30, 5);
        t.person(1, 30, 5);
        t.price(1, 4, 1);
        t.weeks(5);
        return t;
    }

    private static void needs(Edge on) {
        int[][] due = {{5, 2}, {11, 2}, {12, 2}, {13, 4}, {14, 4}, {80, 4}};
        for (int[] d : due) {
            MillTown t = new MillTown();
            t.shop(0, 0, 0);
            t.home(0, 100);
            on.is("NEED of nobody", t.homeOf(0, 3), 0);
            t.person(0, d[0], 1);
            on.is("NEED of AGE " + d[0], t.homeOf(0, 3), d[1]);
            t.person(0, 40, 1);
            on.is("NEED of two", t.homeOf(0, 3), d[1] + 4);
            t.weeks(1);
            on.is("COINS behind its loaves", t.homeOf(0, 0), 100 - 6 * (d[1] + 4));
        }
    }

    private static void canPay(Edge on) {
        int[][] due = {{0, 0, 0}, {5, 0, 5}, {6, 1, 0}, {7, 1, 1}, {23, 3, 5}, {24, 4, 0}, {25, 4, 1}, {30, 4, 6}, {31, 4, 7}};
        for (int[] d : due) {
            MillTown t = new MillTown();
            t.shop(100, 400, 0);
            t.home(0, d[0]);
            t.person(0, 30, 1);
            t.weeks(1);
            on.is("loaves for " + d[0], t.about(9), d[1]);
            on.is("COINS of " + d[0], t.homeOf(0, 0), d[2]);
            on.is("HUNGER with " + d[0], t.homeOf(0, 6), 4 - d[1]);
            on.is("it leaves the town", t.shopOf(0, 0), 100);
        }
    }

    /**
     * A HOME without coins earns 120 in WEEK 0 alone, and 4 loaves are so dear that it lacks some; RELIEF comes later, if
     * its MILL is STRUCK.
     */
    private static MillTown trusting(int shopCoins, int trust, int rent, int loaf) {
        MillTown t = new MillTown();
        t.mill(4, 100, 9000, -1000);
        t.shop(shopCoins, trust, rent);
        t.home(0, 0);
        t.person(0, 30, 5);
        t.work(0, 1, 0, 4);
        Due.enforce(t, "price 20;");
        t.order(0, 6, 100, 0, 0);
        t.price(1, 0, loaf);
        return t;
    }

    private static void home(Edge on, MillTown t, String of, int coins, int debt, int hunger, int shopCoins) {
        on.is("COINS, " + of, t.homeOf(0, 0), coins);
        on.is("DEBT, " + of, t.homeOf(0, 1), debt);
        on.is("HUNGER, " + of, t.homeOf(0, 6), hunger);
        on.is("COINS of the SHOP, " + of, t.shopOf(0, 0), shopCoins);
        on.is("DEBTS there, " + of, t.shopOf(0, 1), debt);
    }

    private static void failedShops(Edge on) {
        for (int rent = 839; rent <= 841; rent++) {
            MillTown t = trusting(960, 400, rent, 60);
            t.price(1, 1, 1);
            t.weeks(1);
            // Two loaves bought, two on TRUST: 120 of DEBT. Then RENT: 840 are left for it.
            on.is("FAILED with a RENT of " + rent, t.shopOf(0, 2), rent > 840 ? 1 : 0);
            on.is("TRUST in the WEEK in which it fails", t.homeOf(0, 1), 120);
            t.strike(0, true);
            t.fund(1000, 0, 1);
            t.weeks(1);
            on.is("loaves of the next WEEK, RENT " + rent, t.about(9), 5 + (rent == 839 ? 1 : 0));
            on.is("DEBT", t.homeOf(0, 1), rent == 839 ? 121 : 120);
        }
        for (int rent = 0; rent <= 1; rent++) {
            MillTown t = trusting(120, 400, rent, 60);
            t.price(1, 1, 1);
            t.price(1, 2, 1);
            t.weeks(1);
            t.strike(0, true);
            t.fund(1000, 0, 24);
            t.weeks(1);
            on.is("COINS of the SHOP again", t.shopOf(0, 0) > 3 ? 1 : 0, 1);
            t.fund(0, 0, 1);
            t.weeks(1);
            on.is("HUNGER with a RENT of " + rent, t.homeOf(0, 6), rent == 0 ? 0 : 3);
            on.is("DEBT with a RENT of " + rent, t.homeOf(0, 1), rent == 0 ? 103 : 100);
        }
    }

    private static void shopsCoins(Edge on) {
        int[][] due = {{59, 0}, {60, 60}, {61, 60}, {119, 60}, {120, 120}, {121, 120}};
        for (int[] d : due) {
            MillTown t = trusting(d[0], 400, 0, 60);
            t.weeks(1);
            home(on, t, "a SHOP of " + d[0], 0, d[1], 2 - d[1] / 60, d[0] - d[1]);
        }
    }

    private static void debtsAtMost(Edge on) {
        // TRUST * 120 / 400 is 59, 60 and 60 for 199, 200 and 201; 49 and 50 for 166 and 167.
        int[][] due = {{199, 60, 0}, {200, 60, 60}, {201, 60, 60}, {399, 60, 60}, {400, 60, 120}, {0, 60, 0}, {166, 50, 0},
            {167, 50, 50}, {400, 61, 61}};
        for (int[] d : due) {
            MillTown t = trusting(1000, d[0], 0, d[1]);
            t.weeks(1);
            int bought = 120 / d[1];
            home(on, t, "TRUST " + d[0] + ", a loaf for " + d[1], 120 - bought * d[1], d[2], 4 - bought - d[2] / d[1],
                    1000 - d[2]);
        }
        // With a loaf for 59 the fourth is there: what is left pays for some of the DEBT.
        MillTown t = trusting(1000, 400, 0, 59);
        t.weeks(1);
        home(on, t, "a loaf for 59", 0, 2 * 59 - 2, 0, 1000 - 2 * 59 + 2);
        // The DEBT of the WEEK ahead counts: 120 stand at what TRUST goes to.
        MillTown later = trusting(1000, 400, 0, 60);
        later.price(1, 1, 1);
        later.weeks(2);
        home(on, later, "TRUST that is used", 0, 120, 4, 880);
    }

    private static void earnedAhead(Edge on) {
        // EARNED 120 of WEEK 0: with a loaf for a coin, from WEEK 1 on, TRUST gives 4 a WEEK until WEEK 3.
        MillTown t = trusting(1000, 400, 0, 30);
        for (int week = 1; week <= 5; week++) {
            t.price(1, week, 1);
        }
        int[] due = {0, 4, 8, 12, 12, 12};
        for (int week = 0; week < due.length; week++) {
            t.weeks(1);
            on.is("DEBT behind WEEK " + week, t.homeOf(0, 1), due[week]);
        }
        // EARNED of this WEEK alone, and of all four.
        int[][] loaves = {{119, 119}, {120, 120}, {121, 0}};
        for (int[] d : loaves) {
            MillTown all = trusting(1000, 100, 0, 30);
            all.strike(0, true);
            all.fund(1000, 0, 120);
            all.price(1, 1, 30);
            all.price(1, 2, 30);
            all.price(1, 3, d[0]);
            all.weeks(3);
            on.is("no DEBT for three WEEKS", all.homeOf(0, 1), 0);
            all.weeks(1);
            on.is("TRUST of 120 for a loaf of " + d[0], all.homeOf(0, 1), d[1]);
        }
    }

    private static void paysDebt(Edge on) {
        int[][] due = {{122, 0, 2, 0}, {123, 0, 1, 0}, {124, 0, 0, 0}, {125, 1, 0, 0}, {4, 0, 120, 0}, {5, 0, 119, 0}};
        for (int[] d : due) {
            MillTown t = trusting(1000, 400, 0, 60);
            t.price(1, 1, 1);
            t.weeks(1);
            home(on, t, "DEBT of 120", 0, 120, 0, 880);
            t.strike(0, true);
            t.fund(1000, 0, d[0]);
            t.weeks(1);
            home(on, t, "with " + d[0] + " coins then", d[1], d[2], d[3], 1000 - d[2]);
        }
        // One loaf that lacks is HUNGER of 1, and nothing of the DEBT is paid.
        int[][] lacks = {{9, 9, 120, 4}, {35, 5, 120, 1}, {39, 9, 120, 1}, {40, 0, 120, 0}, {41, 0, 119, 0}};
        for (int[] d : lacks) {
            MillTown t = trusting(120, 400, 0, 60);
            t.price(1, 1, 10);
            t.weeks(1);
            t.strike(0, true);
            t.fund(1000, 0, d[0]);
            t.weeks(1);
            home(on, t, "with " + d[0] + " coins for loaves of 10", d[1], d[2], d[3], 120 - d[2]);
        }
    }

    private static void paysFailed(Edge on) {
        MillTown t = trusting(120, 400, 1, 60);
        t.price(1, 1, 1);
        t.weeks(1);
        on.is("FAILED", t.shopOf(0, 2), 1);
        home(on, t, "a SHOP that failed", 0, 120, 0, -1);
        t.strike(0, true);
        t.fund(1000, 0, 24);
        t.weeks(1);
        home(on, t, "20 coins for it", 0, 100, 0, 19);
        on.is("it is FAILED still", t.shopOf(0, 2), 1);
    }

    private static void rents(Edge on) {
        int[][] due = {{9, -1, 1}, {10, 0, 0}, {11, 1, 0}};
        for (int[] d : due) {
            MillTown t = new MillTown();
            t.shop(d[0], 0, 10);
            t.weeks(1);
            on.is("COINS of " + d[0], t.shopOf(0, 0), d[1]);
            on.is("FAILED with " + d[1], t.shopOf(0, 2), d[2]);
            t.weeks(1);
            on.is("COINS of the next WEEK", t.shopOf(0, 0), d[2] == 1 ? -1 : d[1] - 10);
            on.is("FAILED in the next WEEK", t.shopOf(0, 2), 1);
            t.weeks(1);
            on.is("no RENT of one that FAILED", t.shopOf(0, 0), d[2] == 1 ? -1 : d[1] - 10);
        }
        MillTown none = new MillTown();
        none.shop(0, 0, 0);
        none.weeks(1);
        on.is("no RENT, no COINS", none.shopOf(0, 2), 0);
    }

    private static void gone(Edge on) {
        MillTown t = new MillTown();
        t.mill(9, 100, 9000, 1000);
        t.shop(0, 0, 0);
        t.home(0, 0);
        t.home(0, 5000);
        t.person(0, 30, 5);
        t.person(1, 30, 5);
        t.work(0, 1, 0, 2);
        t.work(1, 2, 0, 1);
        t.weeks(3);
        on.is("behind three WEEKS", t.homeOf(0, 2), 0);
        on.is("WORK", t.personOf(0, 3), 1);
        t.weeks(1);
        on.is("behind four WEEKS", t.homeOf(0, 2), 1);
        on.is("HUNGER of that WEEK", t.homeOf(0, 6), 4);
        on.is("WORK ends", t.personOf(0, 3), 0);
        on.is("its LEARNER's, too", t.personOf(1, 3), 0);
        on.is("LOOMS", t.millOf(0, 1), 0);
        on.is("another HOME", t.homeOf(1, 2), 0);
        t.weeks(1);
        on.is("GONE from then on", t.homeOf(0, 2), 1);
        on.is("no HUNGER any more", t.homeOf(0, 6), 0);
        // In the fourth WEEK a loaf costs a coin: one that lacks is HUNGER.
        for (int coins = 2; coins <= 5; coins++) {
            MillTown fourth = new MillTown();
            fourth.shop(0, 0, 0);
            fourth.home(0, coins);
            fourth.person(0, 30, 1);
            fourth.price(1, 3, 1);
            fourth.weeks(4);
            on.is("HUNGER with " + coins, fourth.homeOf(0, 6), Math.max(0, 4 - coins));
            on.is("GONE with " + coins, fourth.homeOf(0, 2), coins < 4 ? 1 : 0);
        }
        // A WEEK without HUNGER, and four must go by anew.
        for (int plenty = 0; plenty <= 3; plenty++) {
            MillTown one = new MillTown();
            one.shop(0, 0, 0);
            one.home(0, 22);
            one.person(0, 30, 1);
            one.price(1, plenty, 1);
            one.weeks(plenty);
            on.is("HUNGER ahead of it", one.homeOf(0, 6), plenty == 0 ? 0 : plenty == 1 ? 1 : 4);
            one.weeks(1);
            on.is("HUNGER in WEEK " + plenty, one.homeOf(0, 6), 0);
            one.weeks(3);
            on.is("three WEEKS behind it", one.homeOf(0, 2), 0);
            one.weeks(1);
            on.is("four WEEKS behind it", one.homeOf(0, 2), 1);
        }
    }

    private static void orderWeeks(Edge on) {
        MillTown t = new MillTown();
        t.weeks(5);
        int[][] due = {{4, 4, NONE}, {4, 9, NONE}, {5, 4, NONE}, {5, 5, 0}, {5, 6, 1}, {6, 5, NONE}, {6, 6, 2}, {398, 399, 3},
            {399, 399, 4}, {399, 400, NONE}, {400, 400, NONE}, {399, 398, NONE}};
        for (int[] d : due) {
            on.is("from " + d[0] + " to " + d[1], t.order(0, 1, 1, d[0], d[1]), d[2]);
        }
        on.is("from", t.orderOf(1, 3), 5);
        on.is("to", t.orderOf(1, 4), 6);
    }

    private static void orderRefused(Edge on) {
        MillTown t = weaving(5000, -1000);
        t.weeks(5);
        int[][] others = {{-1, 1, 1, 5, 5}, {6, 1, 1, 5, 5}, {0, 0, 1, 5, 5}, {0, 501, 1, 5, 5}, {0, 1, 0, 5, 5},
            {0, 1, 10001, 5, 5}, {0, 1, 1, 4, 5}, {0, 1, 1, 6, 5}, {0, 1, 1, 5, 400}, {0, 1, 1, -1, 5}};
        for (int[] o : others) {
            on.none(t, "order" + java.util.Arrays.toString(o), () -> t.order(o[0], o[1], o[2], o[3], o[4]));
        }
        for (int order = 0; order < 80; order++) {
            on.is("ORDER " + order, t.order(5, 500, 10000, 399, 399), order);
        }
        on.none(t, "an 81st", () -> t.order(0, 1, 1, 5, 5));
        on.is("there are 80", t.about(7), 80);
        on.yes("a KIND of which none was told", t.kind(0, 60, 30, 10, 0, 0));
    }

    private static void termsRefused(Edge on) {
        MillTown t = weaving(5000, -1000);
        t.terms(7, 8);
        int[][] others = {{-1, 1}, {1001, 1}, {0, 0}, {0, 100001}, {1, -1}, {Integer.MAX_VALUE, 5}, {5, Integer.MIN_VALUE}};
        for (int[] o : others) {
            on.refused(t, "terms" + java.util.Arrays.toString(o), () -> t.terms(o[0], o[1]));
        }
        on.yes("terms(0, 1)", t.terms(0, 1));
        on.yes("terms(1000, 100000)", t.terms(1000, 100000));
        on.is("RAIL", t.about(13), 1000);
        on.is("DEAR", t.about(14), 100000);
    }

    private static void fundTold(Edge on) {
        on.range("more", 0, 100000, v -> {
            MillTown t = new MillTown();
            return t.fund(v, 1, 2) && t.about(8) == v;
        });
        MillTown t = new MillTown();
        for (int i = 1; i <= 512; i++) {
            on.yes("100000 more", t.fund(100000, 1, 2));
        }
        on.is("they come together", t.about(8), 51200000);
        t.fund(0, 3, 4);
        on.is("0 more", t.about(8), 51200000);
        on.is("LEVY", t.about(11), 3);
        on.is("RELIEF", t.about(12), 4);
    }

    private static void fundRefused(Edge on) {
        MillTown t = weaving(5000, -1000);
        t.fund(7, 8, 9);
        int[][] others = {{-1, 1, 1}, {100001, 1, 1}, {1, -1, 1}, {1, 51, 1}, {1, 1, -1}, {1, 1, 501}};
        for (int[] o : others) {
            on.refused(t, "fund" + java.util.Arrays.toString(o), () -> t.fund(o[0], o[1], o[2]));
        }
        on.yes("the least", t.fund(0, 0, 0));
        on.yes("the most", t.fund(100000, 50, 500));
    }

    private static void strikeRefused(Edge on) {
        MillTown none = new MillTown();
        on.refused(none, "without a MILL", () -> none.strike(0, true));
        MillTown t = weaving(5000, -1000);
        on.refused(t, "MILL -1", () -> t.strike(-1, true));
        on.refused(t, "MILL 1", () -> t.strike(1, true));
        on.refused(t, "it isn't STRUCK", () -> t.strike(0, false));
        on.yes("it is now", t.strike(0, true));
        on.is("STRUCK", t.millOf(0, 5), 1);
        on.refused(t, "it is STRUCK", () -> t.strike(0, true));
        on.yes("it isn't now", t.strike(0, false));
        on.is("STRUCK", t.millOf(0, 5), 0);
        MillTown closed = closing(3399);
        on.refused(closed, "CLOSED", () -> closed.strike(0, true));
        on.refused(closed, "CLOSED, and not STRUCK", () -> closed.strike(0, false));
        on.yes("not CLOSED with 0 COINS", closing(3400).strike(0, true));
    }

    private static void weeksRefused(Edge on) {
        MillTown t = weaving(5000, -1000);
        for (int n : new int[] {Integer.MIN_VALUE, -1, 0, 53, 54, Integer.MAX_VALUE}) {
            on.none(t, "weeks(" + n + ")", () -> t.weeks(n));
        }
        for (int i = 1; i <= 7; i++) {
            on.is("weeks(52)", t.weeks(52), 52 * i);
        }
        on.none(t, "36 are left: 37", () -> t.weeks(37));
        on.is("35", t.weeks(35), 399);
        on.none(t, "one is left: 2", () -> t.weeks(2));
        on.is("1", t.weeks(1), 400);
        on.none(t, "none is left: 1", () -> t.weeks(1));
        t.back();
        for (int i = 1; i <= 7; i++) {
            t.weeks(52);
        }
        on.is("36 are left: 36", t.weeks(36), 400);
    }

    private static void lastKind(Edge on) {
        MillTown t = weaving(5000, -1000);
        on.is("ahead of any ORDER", t.millOf(0, 6), NONE);
        t.order(0, 1, 100, 1, 1);
        t.order(5, 1, 100, 2, 2);
        t.weeks(1);
        on.is("none was known", t.millOf(0, 6), NONE);
        t.weeks(1);
        on.is("KIND 0", t.millOf(0, 6), 0);
        t.weeks(1);
        on.is("KIND 5", t.millOf(0, 6), 5);
        t.weeks(1);
        on.is("behind it", t.millOf(0, 6), 5);
        t.strike(0, true);
        on.is("STRUCK", t.millOf(0, 6), 5);
    }

    private static void latestWeek(Edge on) {
        MillTown t = weaving(5000, -1000);
        int[][] due = {{0, NONE, 0}, {0, NONE, 0}, {1, 0, 2}, {2, 1, 7}, {0, NONE, 0}};
        t.order(0, 2, 100, 1, 1);
        t.order(0, 500, 100, 2, 2);
        for (int[] d : due) {
            for (int what = 7; what <= 9; what++) {
                on.is("millOf(0, " + what + ") at " + t.about(0), t.millOf(0, what), d[what - 7]);
            }
            t.weeks(1);
        }
        t.mill(1, 100, 0, 0);
        on.is("a new MILL", t.millOf(1, 7), 0);
        on.is("its ORDER", t.millOf(1, 8), NONE);
        on.is("its PIECES", t.millOf(1, 9), 0);
    }

    private static void latestOfHomes(Edge on) {
        MillTown t = trusting(0, 0, 0, 60);
        on.is("EARNED ahead of any", t.homeOf(0, 5), 0);
        on.is("HUNGER ahead of any", t.homeOf(0, 6), 0);
        t.weeks(1);
        on.is("EARNED", t.homeOf(0, 5), 120);
        on.is("HUNGER", t.homeOf(0, 6), 2);
        t.weeks(1);
        on.is("EARNED then", t.homeOf(0, 5), 0);
        on.is("HUNGER then", t.homeOf(0, 6), 4);
        t.home(0, 0);
        on.is("EARNED of a new one", t.homeOf(1, 5), 0);
        on.is("HUNGER of a new one", t.homeOf(1, 6), 0);
    }

    private static void worksOfPersons(Edge on) {
        MillTown t = weaving(5000, -1000);
        t.mill(2, 100, 0, 0);
        t.person(0, 17, 1);
        int[][] due = {{0, NONE, 0, NONE}, {1, 1, 2, NONE}, {2, 0, 1, 0}, {3, 1, 50, NONE}, {4, 0, 7, NONE}, {0, NONE, 0, NONE}};
        int[][] told = {{0, 0, 0}, {1, 1, 2}, {2, 0, 1}, {3, 1, 50}, {4, 0, 7}, {0, 0, 0}};
        for (int i = 0; i < due.length; i++) {
            on.yes("WORK " + i, t.work(1, told[i][0], told[i][1], told[i][2]));
            for (int what = 3; what <= 6; what++) {
                on.is("personOf(1, " + what + ") of WORK " + i, t.personOf(1, what), due[i][what - 3]);
            }
        }
    }

    private static void latestWages(Edge on) {
        MillTown t = weaving(5000, -1000);
        on.is("WAGES ahead of any", t.personOf(0, 8), 0);
        Due.enforce(t, "price 20;");
        t.order(0, 6, 100, 0, 0);
        t.fund(0, 50, 0);
        t.weeks(1);
        on.is("LEVY off", t.personOf(0, 8), 70);
        t.work(0, 0, 0, 0);
        on.is("without WORK, of the latest WEEK still", t.personOf(0, 8), 70);
        t.person(0, 30, 1);
        on.is("of one who is new", t.personOf(1, 8), 0);
        t.weeks(1);
        on.is("WAGES then", t.personOf(0, 8), 0);
    }

    private static void debtsTogether(Edge on) {
        MillTown t = trusting(1000, 400, 881, 60);
        t.mill(4, 100, 9000, -1000);
        t.home(0, 0);
        t.person(1, 30, 5);
        t.work(1, 1, 1, 4);
        t.order(0, 6, 100, 0, 0);
        on.is("DEBTS at first", t.shopOf(0, 1), 0);
        on.is("FAILED at first", t.shopOf(0, 2), 0);
        t.shop(5, 0, 0);
        t.weeks(1);
        on.is("DEBT of the first", t.homeOf(0, 1), 120);
        on.is("DEBT of the second", t.homeOf(1, 1), 120);
        on.is("DEBTS together", t.shopOf(0, 1), 240);
        on.is("COINS", t.shopOf(0, 0), 1000 - 240 - 881);
        on.is("FAILED", t.shopOf(0, 2), 1);
        on.is("DEBTS at another", t.shopOf(1, 1), 0);
        on.is("another isn't FAILED", t.shopOf(1, 2), 0);
    }

    private static void leftOfOrders(Edge on) {
        MillTown t = weaving(5000, -1000);
        t.order(0, 14, 100, 0, 9);
        int[] due = {14, 8, 1, 0, 0};
        for (int left : due) {
            on.is("PIECES left at " + t.about(0), t.orderOf(0, 1), left);
            t.weeks(1);
        }
        on.is("the last WEEK it ran", t.millOf(0, 8), NONE);
    }

    private static void bookRefused(Edge on) {
        MillTown t = trusting(0, 0, 0, 60);
        on.none(t, "WEEK 0 isn't over", () -> t.book(0, 0, 0));
        t.weeks(2);
        int[][] others = {{-1, 0, 0}, {1, 0, 0}, {0, -1, 0}, {0, 2, 0}, {0, 400, 0}, {0, 0, -1}, {0, 0, 2}};
        for (int[] o : others) {
            on.none(t, "book" + java.util.Arrays.toString(o), () -> t.book(o[0], o[1], o[2]));
        }
        on.unchanged(t, "EARNED in WEEK 0", () -> t.book(0, 0, 0), 120);
        on.unchanged(t, "HUNGER in WEEK 0", () -> t.book(0, 0, 1), 2);
        on.unchanged(t, "EARNED in WEEK 1", () -> t.book(0, 1, 0), 0);
        on.unchanged(t, "HUNGER in WEEK 1", () -> t.book(0, 1, 1), 4);
        t.back();
        on.none(t, "behind BACK", () -> t.book(0, 0, 0));
        MillTown all = new MillTown();
        all.shop(0, 0, 0);
        for (int home = 0; home < 24; home++) {
            all.home(0, 0);
            all.person(home, home < 13 ? 30 : 10, 1);
        }
        all.weeks(1);
        on.is("HUNGER of HOME 23", all.book(23, 0, 1), 2);
        on.is("HUNGER of HOME 0", all.book(0, 0, 1), 4);
        on.none(all, "HOME 24", () -> all.book(24, 0, 1));
    }
}
