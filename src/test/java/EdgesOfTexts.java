/** Edges that are named by part II of Terms and by promises 11 to 18. */
final class EdgesOfTexts {
    private static final int NONE = MillTown.NONE;
    private static final String LEAST_24 = "least 1;".repeat(24);

    private EdgesOfTexts() {
    }

    static void all(Edges e) {
        e.of("II", "TEXTS 0 .. 19", EdgesOfTexts::texts);
        e.of("II", "each of up to 300 bytes", EdgesOfTexts::fullTexts);
        e.of("II", "TOKENS, blanks (32, 10) aside", EdgesOfTexts::blanks);
        e.of("II", "letters a .. z, A .. Z one behind the other (one TOKEN)", EdgesOfTexts::letters);
        e.of("II", "digits likewise (NUMBERS, 0 .. 9999)", EdgesOfTexts::numbers);
        e.of("II", "<= >= < > = # + - * / ( ) , ; (the longest)", EdgesOfTexts::signs);
        e.of("II", "{CLAUSE}, 24 at most.", EdgesOfTexts::clauses);
        e.of("II", "(NUMBER 0 .. 29)", EdgesOfTexts::extraNumbers);
        e.of("II", "or least NUMBER ;", on -> numbersOf(on, "least %d;", 6, 9999));
        e.of("II", "age NUMBER to NUMBER hours NUMBER ; (0 .. 99, the second not below the first; 0 .. 80)",
                EdgesOfTexts::ageNumbers);
        e.of("II", "meals NUMBER ; (0 .. 20)", on -> numbersOf(on, "meals %d;", 6, 20));
        e.of("II", "clean NUMBER ; (0 .. 20)", on -> numbersOf(on, "clean %d;", 6, 20));
        e.of("II", "EITHER: BOTH {or BOTH}. BOTH: ASK {and ASK}.", EdgesOfTexts::eithers);
        e.of("II", "SUM one of < <= > >= = # (unlike) SUM", EdgesOfTexts::comparisons);
        e.of("II", "SUM: PRODUCT {+ or - PRODUCT}. PRODUCT: ONE {* or / ONE}.", EdgesOfTexts::orders);
        e.of("II", "min ( SUM , SUM ), max likewise", EdgesOfTexts::pairs);
        e.of("II", "FAULTS, the first as TOKENS are come to", EdgesOfTexts::firstFault);
        e.of("II", "at the TOKEN's first byte (of the end at the length)", EdgesOfTexts::placesOfFaults);
        e.of("II", "of one the least", EdgesOfTexts::leastFault);
        e.of("II", "1 it can't stand there, or is none.", EdgesOfTexts::cannotStand);
        e.of("II", "2 a NUMBER that isn't one of those told.", EdgesOfTexts::numbersNotTold);
        e.of("II", "3 the 9th of ( not and - (of one ONE) that are open around one another", EdgesOfTexts::depths);
        e.of("II", "(at it; min and max at their ( )", EdgesOfTexts::depthsOfPairs);
        e.of("II", "4 the 25th CLAUSE (at its first TOKEN).", EdgesOfTexts::manyClauses);
        sums(e);
        laws(e);
        promises(e);
    }

    private static void sums(Edges e) {
        e.of("II", "from the left, each made as small as it goes, with what is below the line above 0", EdgesOfTexts::small);
        e.of("II", "/ by 0 gives LOST", EdgesOfTexts::overZero);
        e.of("II", "so does a FRACTION above or below whose line more than 1000000000 (the sign aside) would stand",
                EdgesOfTexts::tooLarge);
        e.of("II", "whatever LOST comes into is LOST", EdgesOfTexts::lostComesIn);
        e.of("II", "Asked with LOST, an ASK is not so (not of it is so)", EdgesOfTexts::lostAsked);
        e.of("II", "or and and look at both sides always", EdgesOfTexts::bothSides);
    }

    private static void laws(Edges e) {
        e.of("II", "FORCE (60 at most)", EdgesOfTexts::forces);
        e.of("II", "a TEXT holds at a MILL (NONE: at all) from a WEEK to one (both)", EdgesOfTexts::weeksOfForces);
        e.of("II", "TOLD in a WEEK (the clock then)", EdgesOfTexts::toldThen);
        e.of("II", "TOLD in that WEEK or ahead", EdgesOfTexts::known);
        e.of("II", "whose TEXT has a CLAUSE of that sort, the one told latest", EdgesOfTexts::latest);
        e.of("II", "then its extra (if the KIND has that one) and when CLAUSES (if EITHER is so)", EdgesOfTexts::counted);
        e.of("II", "cut to whole coins at the end", EdgesOfTexts::cut);
        e.of("II", "its least NUMBERS' greatest at least, 0 at least, 100000 at most", EdgesOfTexts::bounds);
        e.of("II", "LOST, or without such a TEXT: 0.", EdgesOfTexts::noPay);
        e.of("II", "the first age CLAUSE with that AGE, without one 0; without such a TEXT 60", EdgesOfTexts::ages);
        e.of("II", "Less meals and clean (the greatest of THE TEXT for each), 0 at least.", EdgesOfTexts::breaks);
    }

    private static void promises(Edges e) {
        e.of(11, "Twenty bytes come behind the tape, the highest of a first: how many it has.", EdgesOfTexts::fed);
        e.of(11, "NONE, and none come, if there would be more than 300.", EdgesOfTexts::fedTooMuch);
        e.of(12, "The tape has its first n bytes alone: n.", EdgesOfTexts::ended);
        e.of(12, "NONE, and nothing is done, if it has not so many, or n is below 0.", EdgesOfTexts::endRefused);
        e.of(13, "The tape (empty then) is a TEXT: its number.", EdgesOfTexts::textTold);
        e.of(13, "NONE: it has a FAULT; or (the tape stays) there are 20.", EdgesOfTexts::textRefused);
        e.of(14, "Of the latest TEXT that was read: 0 its FAULT (0 without), 1 its place (NONE without).",
                EdgesOfTexts::faultTold);
        e.of(14, "NONE for others, and ahead of any.", EdgesOfTexts::faultRefused);
        e.of(15, "NONE for others (from not ahead of the clock), or if there are 60.", EdgesOfTexts::forceRefused);
        e.of(16, "NONE for others.", EdgesOfTexts::payRefused);
        e.of(17, "By which FORCE that is (what NONE; NONE: none)", EdgesOfTexts::whyForce);
        e.of(17, "which of its TEXT's CLAUSES (from 0) is the i-th (from 0) that counted of price, extra and when ones"
                + " (NONE: none such, or LOST)", EdgesOfTexts::whyClause);
        e.of(17, "NONE for others.", EdgesOfTexts::whyRefused);
        e.of(18, "HOURS of an AGE (0 .. 99)",
                on -> on.range("HOURS of AGE", 0, 99, v -> kindTown().hours(v, 0, 0, 0) == 60));
        e.of(18, "NONE for others.", EdgesOfTexts::hoursRefused);
    }

    /** A MILL, and KIND 0 with PICKS 60, WIDTH 30, YARN 10, HARD 4 and the EXTRAS 0 and 29. */
    private static MillTown kindTown() {
        MillTown t = new MillTown();
        t.mill(1, 50, 0, 0);
        t.kind(0, 60, 30, 10, 4, 1 | 1 << 29);
        return t;
    }

    private static void fault(Edge on, String text, int what, int place) {
        MillTown t = new MillTown();
        on.is("text() of " + text, Due.read(t, text), what == 0 ? 0 : NONE);
        on.is("the FAULT of " + text, t.fault(0), what);
        on.is("the place of it in " + text, t.fault(1), place);
        on.is("TEXTS then", t.about(5), what == 0 ? 1 : 0);
    }

    private static void right(Edge on, String text) {
        fault(on, text, 0, NONE);
    }

    private static void pay(Edge on, String text, int due) {
        MillTown t = kindTown();
        on.yes("FORCE of " + text, Due.enforce(t, text) == 0);
        on.is("PAY by " + text, t.pay(0, 0, 0, 0), due);
    }

    private static void so(Edge on, String ask) {
        pay(on, "price 1; when " + ask + " add 1;", 2);
    }

    private static void notSo(Edge on, String ask) {
        pay(on, "price 1; when " + ask + " add 1;", 1);
    }

    private static void texts(Edge on) {
        MillTown t = new MillTown();
        on.none(t, "force of TEXT 0", () -> t.force(0, NONE, 0, 0));
        for (int text = 0; text < 20; text++) {
            on.is("TEXT " + text, Due.read(t, "least " + text + ";"), text);
        }
        t.mill(1, 50, 0, 0);
        on.is("force of TEXT 0", t.force(0, NONE, 0, 0), 0);
        on.is("force of TEXT 19", t.force(19, NONE, 0, 0), 1);
        on.none(t, "force of TEXT 20", () -> t.force(20, NONE, 0, 0));
        on.none(t, "force of TEXT -1", () -> t.force(-1, NONE, 0, 0));
        Due.feed(t, "least 1;");
        on.none(t, "a 21st TEXT", t::text);
    }

    private static void fullTexts(Edge on) {
        String sum = "price 1" + "+1".repeat(145);
        right(on, sum + "; ");
        right(on, sum + " ;");
        right(on, sum + "  ;");
        pay(on, sum + ";", 146);
        pay(on, sum + "+1;", 147);
        fault(on, sum + "+1+", 1, 300);
        fault(on, sum + "+1 ", 1, 300);
        fault(on, ";".repeat(300), 1, 0);
        fault(on, "price " + "9".repeat(294), 2, 6);
        fault(on, "price" + "e".repeat(295), 1, 0);
        right(on, " ".repeat(300));
        fault(on, " ".repeat(299) + "!", 1, 299);
        pay(on, " ".repeat(292) + "price 7;", 7);
        pay(on, "price 7;" + "\n".repeat(292), 7);
        fault(on, " ".repeat(294) + "price ", 1, 300);
        fault(on, " ".repeat(295) + "price", 1, 300);
        fault(on, " ".repeat(296) + "pric", 1, 296);
        fault(on, " ".repeat(293) + "when 1<", 1, 300);
        fault(on, " ".repeat(293) + "price 1", 1, 300);
    }

    private static void blanks(Edge on) {
        right(on, "price 1;");
        right(on, " price\n1 ; ");
        right(on, "\n\n  price  1  ;\n");
        right(on, "price1;");
        right(on, " ");
        right(on, "\n");
        right(on, "");
        for (int none : new int[] {0, 9, 11, 13, 31, 33, 160}) {
            fault(on, "price" + (char) none + "1;", 1, 5);
            fault(on, "" + (char) none, 1, 0);
        }
        fault(on, "pri ce 1;", 1, 0);
        fault(on, "price 1 1;", 1, 8);
        fault(on, "when 1< =1 add 1;", 1, 8);
    }

    private static void letters(Edge on) {
        right(on, "price picks;");
        fault(on, "pricepicks;", 1, 0);
        fault(on, "price picksa;", 1, 6);
        fault(on, "price picksZ;", 1, 6);
        fault(on, "price apicks;", 1, 6);
        fault(on, "price pick;", 1, 6);
        fault(on, "pricE 1;", 1, 0);
        fault(on, "PRICE 1;", 1, 0);
        for (char letter : new char[] {'a', 'b', 'y', 'z', 'A', 'B', 'Y', 'Z'}) {
            fault(on, "price" + letter + ";", 1, 0);
            fault(on, "price " + letter + ";", 1, 6);
        }
        for (char none : new char[] {'@', '[', '`', '{'}) {
            fault(on, "price" + none + "1;", 1, 5);
            fault(on, "price picks" + none + ";", 1, 11);
        }
        right(on, "price picks/1;");
        right(on, "age0to0hours0;");
    }

    private static void numbers(Edge on) {
        pay(on, "price 0; least 0;", 0);
        pay(on, "price 1;", 1);
        pay(on, "price 9998;", 9998);
        pay(on, "price 9999;", 9999);
        fault(on, "price 10000;", 2, 6);
        fault(on, "price 10001;", 2, 6);
        pay(on, "price 0009999;", 9999);
        fault(on, "price 0010000;", 2, 6);
        fault(on, "price 2147483648;", 2, 6);
        fault(on, "price 4294967296;", 2, 6);
        fault(on, "price 4294967301;", 2, 6);
        fault(on, "price 18446744073709551617;", 2, 6);
        fault(on, "price 1:;", 1, 7);
        pay(on, "price 1/1;", 1);
        fault(on, "price 1 2;", 1, 8);
        fault(on, "price 1picks;", 1, 7);
        fault(on, "price -1 ;-1", 1, 10);
    }

    private static void signs(Edge on) {
        right(on, "when 1<=2 and 1>=2 or 1<2 or 1>2 or 1=2 or 1#2 add (1+1-1*1/1);");
        right(on, "price min(1,2);");
        so(on, "2<=2");
        so(on, "2>=2");
        fault(on, "when 1< =2 add 1;", 1, 8);
        fault(on, "when 1> =2 add 1;", 1, 8);
        fault(on, "when 1=<2 add 1;", 1, 7);
        fault(on, "when 1=>2 add 1;", 1, 7);
        fault(on, "when 1<>2 add 1;", 1, 7);
        fault(on, "when 1<==2 add 1;", 1, 8);
        fault(on, "when 1==2 add 1;", 1, 7);
        fault(on, "when 1<", 1, 7);
        fault(on, "when 1<=", 1, 8);
        for (char none : new char[] {'!', '"', '$', '%', '&', '\'', '.', ':', '?', '@', '^', '_', '|', '~', 127, 128, 255}) {
            fault(on, "price 1" + none + "1;", 1, 7);
            fault(on, "when 1" + none + "2 add 1;", 1, 6);
            fault(on, "price " + none + "1);", 1, 6);
            fault(on, "price 1" + none, 1, 7);
        }
    }

    private static void clauses(Edge on) {
        for (int count : new int[] {0, 1, 2, 23, 24}) {
            MillTown t = new MillTown();
            on.is("a TEXT of " + count + " CLAUSES", Due.read(t, "least 1;".repeat(count)), 0);
            on.is("its CLAUSES", t.about(15), count);
        }
        fault(on, LEAST_24 + "least 1;", 4, 192);
        pay(on, "extra 0 add 1;price 1;".repeat(12), 24);
    }

    private static void numbersOf(Edge on, String clause, int place, int most) {
        for (int v : new int[] {0, 1, most - 1, most}) {
            right(on, String.format(clause, v));
        }
        fault(on, String.format(clause, most + 1), 2, place);
        fault(on, String.format(clause, -1), 1, place);
        fault(on, String.format(clause, Integer.MAX_VALUE), 2, place);
    }

    private static void extraNumbers(Edge on) {
        numbersOf(on, "extra %d add 1;", 6, 29);
        numbersOf(on, "extra %d take 1;", 6, 29);
        pay(on, "price 9; extra 0 add 1; extra 1 add 1; extra 28 add 1; extra 29 take 4;", 6);
    }

    private static void ageNumbers(Edge on) {
        numbersOf(on, "age %d to 99 hours 0;", 4, 99);
        numbersOf(on, "age 0 to %d hours 0;", 9, 99);
        numbersOf(on, "age 0 to 0 hours %d;", 17, 80);
        fault(on, "age 100 to 100 hours 1;", 2, 4);
        right(on, "age 50 to 50 hours 1;");
        right(on, "age 50 to 51 hours 1;");
        fault(on, "age 50 to 49 hours 1;", 2, 10);
        right(on, "age 99 to 99 hours 80;");
        fault(on, "age 99 to 98 hours 80;", 2, 10);
        fault(on, "age 99 to 100 hours 80;", 2, 10);
    }

    private static void eithers(Edge on) {
        so(on, "1<2 and 1<2");
        notSo(on, "1<2 and 2<1");
        notSo(on, "2<1 and 1<2");
        so(on, "1<2 or 2<1");
        so(on, "2<1 or 1<2");
        so(on, "1<2 or 1<2");
        notSo(on, "2<1 or 2<1");
        so(on, "1<2 or 2<1 and 2<1");
        so(on, "2<1 and 2<1 or 1<2");
        notSo(on, "2<1 and 1<2 or 2<1");
        so(on, "1<2 or 2<1 and 1<2 or 2<1");
        so(on, "2<1 or 2<1 or 1<2 and 1<2 and 1<2");
        notSo(on, "2<1 or 2<1 or 1<2 and 1<2 and 2<1");
        so(on, "2<1 and 1<2 or 1<2 and 1<2");
        fault(on, "when 1<2 or add 1;", 1, 12);
        fault(on, "when 1<2 and add 1;", 1, 13);
        fault(on, "when or 1<2 add 1;", 1, 5);
        fault(on, "when 1<2 1<2 add 1;", 1, 9);
        fault(on, "when (1<2) add 1;", 1, 7);
    }

    private static void comparisons(Edge on) {
        String[] asked = {"<", "<=", ">", ">=", "=", "#"};
        int[][] due = {{1, 0, 0}, {1, 1, 0}, {0, 0, 1}, {0, 1, 1}, {0, 1, 0}, {1, 0, 1}};
        for (int i = 0; i < asked.length; i++) {
            for (int beside = -1; beside <= 1; beside++) {
                pay(on, "price 1; when " + (60 + beside) + asked[i] + "picks add 1;", 1 + due[i][beside + 1]);
                pay(on, "price 1; when " + (100 + beside) + "/7" + asked[i] + "100/7 add 1;", 1 + due[i][beside + 1]);
            }
        }
        fault(on, "when 1 add 1;", 1, 7);
        fault(on, "when 1<2<3 add 1;", 1, 8);
    }

    private static void orders(Edge on) {
        pay(on, "price 1+2*3;", 7);
        pay(on, "price 2*3+1;", 7);
        pay(on, "price 10-3-2;", 5);
        pay(on, "price 10-3+2;", 9);
        pay(on, "price 24/4/2;", 3);
        pay(on, "price 24/4*2;", 12);
        pay(on, "price 20-2*3-4/2;", 12);
        pay(on, "price (20-2)*(3-1);", 36);
        pay(on, "price 9--4;", 13);
        pay(on, "price 9*-1+10;", 1);
        pay(on, "price -3*-3;", 9);
        pay(on, "price -3+4;", 1);
        fault(on, "price 1+;", 1, 8);
        fault(on, "price *1;", 1, 6);
        fault(on, "price +1;", 1, 6);
        fault(on, "price 1+/2;", 1, 8);
    }

    private static void pairs(Edge on) {
        for (int beside = -1; beside <= 1; beside++) {
            pay(on, "price min(60,picks+" + (1 + beside) + "-1);", beside < 0 ? 59 : 60);
            pay(on, "price max(60,picks+" + (1 + beside) + "-1);", beside > 0 ? 61 : 60);
            pay(on, "price min(picks+" + (1 + beside) + "-1,60);", beside < 0 ? 59 : 60);
            pay(on, "price max(picks+" + (1 + beside) + "-1,60);", beside > 0 ? 61 : 60);
        }
        pay(on, "price min(1/3,1/2)*6 + max(-1/3,-1/2)*-30;", 12);
        fault(on, "price min(1);", 1, 11);
        fault(on, "price min(1,2,3);", 1, 13);
        fault(on, "price min 1,2;", 1, 10);
        fault(on, "price min(,2);", 1, 10);
        fault(on, "price min(1 2);", 1, 12);
        fault(on, "price min(1,2;", 1, 13);
        fault(on, "price max();", 1, 10);
    }

    private static void firstFault(Edge on) {
        fault(on, "price 10000; price ;", 2, 6);
        fault(on, "price ; price 10000;", 1, 6);
        fault(on, "price 1; extra 30 add 1; price ;", 2, 15);
        fault(on, "price (((((((((10000;", 3, 14);
        fault(on, "price ((((((((10000((;", 2, 14);
        fault(on, LEAST_24 + "least 10000;", 4, 192);
        fault(on, "least 10000;" + LEAST_24, 2, 6);
        fault(on, "price 1 !", 1, 8);
        fault(on, "!price 10000;", 1, 0);
    }

    private static void placesOfFaults(Edge on) {
        fault(on, "x", 1, 0);
        fault(on, " x", 1, 1);
        fault(on, "\nabc", 1, 1);
        fault(on, "price   picksx  ;", 1, 8);
        fault(on, "price 1  12345;", 1, 9);
        fault(on, "price  12345;", 2, 7);
        fault(on, "price 1", 1, 7);
        fault(on, "price 1 ", 1, 8);
        fault(on, "price 1\n\n", 1, 9);
        fault(on, "p", 1, 0);
        fault(on, "price", 1, 5);
        fault(on, "when 1<=<=2 add 1;", 1, 8);
        fault(on, "when 1 <= <= 2 add 1;", 1, 10);
    }

    private static void leastFault(Edge on) {
        fault(on, "price 1 10000;", 1, 8);
        fault(on, "10000", 1, 0);
        fault(on, "price picks 10000;", 1, 12);
        fault(on, LEAST_24 + "x", 1, 192);
        fault(on, LEAST_24 + "10000", 1, 192);
        fault(on, LEAST_24 + "(", 1, 192);
        fault(on, LEAST_24 + "price", 4, 192);
        fault(on, "price ((((((((1(1;", 1, 15);
        fault(on, "price ((((((((not", 1, 14);
        fault(on, "price ((((((((+", 1, 14);
        fault(on, "price ((((((((min", 1, 17);
        fault(on, "price ((((((((min -", 1, 18);
        fault(on, "least (10000);", 1, 6);
    }

    private static void cannotStand(Edge on) {
        String[] starts = {"extra ", "when ", "price ", "age ", "meals ", "least ", "clean "};
        for (String start : starts) {
            fault(on, start, 1, start.length());
            fault(on, start + ";", 1, start.length());
            fault(on, start + "price 1;", 1, start.length());
            fault(on, start + "!", 1, start.length());
        }
        fault(on, ";", 1, 0);
        fault(on, "add 1;", 1, 0);
        fault(on, "price 1;;", 1, 8);
        fault(on, "price ();", 1, 7);
        fault(on, "price (1;", 1, 8);
        fault(on, "price 1);", 1, 7);
        fault(on, "price 1,2;", 1, 7);
        fault(on, "price 1<2;", 1, 7);
        fault(on, "price 1 price 2;", 1, 8);
        fault(on, "least 1 least 2;", 1, 8);
        fault(on, "price add 1;", 1, 6);
        fault(on, "extra 1 1;", 1, 8);
        fault(on, "extra 1 less 1;", 1, 8);
        fault(on, "extra 1 add;", 1, 11);
        fault(on, "extra 1 take;", 1, 12);
        fault(on, "extra 1+1 add 1;", 1, 7);
        fault(on, "when 1<2;", 1, 8);
        fault(on, "when not add 1;", 1, 9);
        fault(on, "when 1 add 1;", 1, 7);
        fault(on, "when 1 picks 2 add 1;", 1, 7);
        fault(on, "when 1<not 2 add 1;", 1, 7);
        fault(on, "age 1 2 hours 3;", 1, 6);
        fault(on, "age 1 to hours 3;", 1, 9);
        fault(on, "age 1 to 2 3;", 1, 11);
        fault(on, "age 1 to 2 to 3;", 1, 11);
        fault(on, "age 1 hours 2 hours 3;", 1, 6);
        fault(on, "age 1 to 2 hours;", 1, 16);
        fault(on, "age 1 to 2 hours 3", 1, 18);
        fault(on, "least -1;", 1, 6);
        fault(on, "least picks;", 1, 6);
        fault(on, "meals 1+1;", 1, 7);
    }

    private static void numbersNotTold(Edge on) {
        fault(on, "price 10000;", 2, 6);
        fault(on, "price 1+10000;", 2, 8);
        fault(on, "price 1*(10000);", 2, 9);
        fault(on, "price -10000;", 2, 7);
        fault(on, "price min(10000,1);", 2, 10);
        fault(on, "price min(1,10000);", 2, 12);
        fault(on, "when 10000<1 add 1;", 2, 5);
        fault(on, "when 1<10000 add 1;", 2, 7);
        fault(on, "when 1<1 add 10000;", 2, 13);
        fault(on, "extra 30 add 1;", 2, 6);
        fault(on, "extra 29 take 10000;", 2, 14);
        fault(on, "extra 10000 add 1;", 2, 6);
        fault(on, "meals 21;", 2, 6);
        fault(on, "clean 21;", 2, 6);
        fault(on, "age 5 to 4 hours 1;", 2, 9);
        fault(on, "age 5 to 6 hours 81;", 2, 17);
        right(on, "price 9999; extra 29 add 9999; meals 20; clean 20; age 5 to 5 hours 80;");
    }

    private static void depths(Edge on) {
        String[] opened = {"(", "-"};
        for (String open : opened) {
            for (int count : new int[] {1, 7, 8}) {
                String closed = open.equals("(") ? ")".repeat(count) : "";
                right(on, "price " + open.repeat(count) + "1" + closed + ";");
            }
            fault(on, "price " + open.repeat(9) + "1;", 3, 14);
            fault(on, "price " + open.repeat(10) + "1;", 3, 14);
        }
        right(on, "when " + "not ".repeat(7) + "1<2 add 1;");
        right(on, "when " + "not ".repeat(8) + "1<2 add 1;");
        fault(on, "when " + "not ".repeat(9) + "1<2 add 1;", 3, 37);
        right(on, "when " + "not ".repeat(7) + "-1<(2) add 1;");
        fault(on, "when " + "not ".repeat(8) + "-1<2 add 1;", 3, 37);
        fault(on, "when " + "not ".repeat(8) + "1<(2) add 1;", 3, 39);
        right(on, "when " + "not ".repeat(8) + "1<2 and " + "not ".repeat(8) + "1<2 add --------1;");
        right(on, "price ((((1))))+((((1))))*--------1-((((((((1))))))));");
        fault(on, "price ((((1))))+(((((((((1)))))))));", 3, 24);
        right(on, "price 1-(-------1);");
        fault(on, "price 1-(--------1);", 3, 16);
        right(on, "price (-(-(-(-1))));");
        fault(on, "price (-(-(-(-(1)))));", 3, 14);
        pay(on, "price --------1;", 1);
        pay(on, "price -------1+2;", 1);
    }

    private static void depthsOfPairs(Edge on) {
        right(on, "price " + "min(".repeat(8) + "1" + ",2)".repeat(8) + ";");
        right(on, "price " + "-".repeat(7) + "max(1,2);");
        fault(on, "price " + "-".repeat(8) + "max(1,2);", 3, 17);
        fault(on, "price " + "-".repeat(8) + "min (1,2);", 3, 18);
        fault(on, "price " + "min(".repeat(9) + "1", 3, 41);
        right(on, "price min(" + "(".repeat(7) + "1" + ")".repeat(7) + "," + "-".repeat(7) + "2);");
        fault(on, "price min(" + "(".repeat(8) + "1" + ")".repeat(8) + ",2);", 3, 17);
        fault(on, "price min(1," + "-".repeat(8) + "2);", 3, 19);
        fault(on, "price " + "-".repeat(8) + "min 1;", 1, 18);
    }

    private static void manyClauses(Edge on) {
        right(on, LEAST_24);
        fault(on, LEAST_24 + "least 1;", 4, 192);
        fault(on, LEAST_24 + "  price 1;", 4, 194);
        fault(on, LEAST_24 + " least", 4, 193);
        fault(on, "least 1;".repeat(26), 4, 192);
        fault(on, "least 1;".repeat(23) + "least;", 1, 189);
        for (String start : new String[] {"price", "extra", "when", "least", "age", "meals", "clean"}) {
            fault(on, LEAST_24 + start, 4, 192);
        }
    }

    private static void small(Edge on) {
        pay(on, "price 1/3+1/3+1/3;", 1);
        pay(on, "price 2/-4*-2;", 1);
        pay(on, "price 1/-2+1;", 0);
        pay(on, "price 3/-2+3;", 1);
        so(on, "1/-2<0");
        so(on, "-1/-2>0");
        so(on, "2/4=1/2");
        so(on, "-2/4=1/-2");
        so(on, "0/5=0/-7");
        pay(on, "price 9999/5000*5000*5000*4/9999;", 20000);
        pay(on, "price 5000/9999*9999;", 5000);
        pay(on, "price 9999/7*9998/9999*7/9998*9;", 9);
        so(on, "5/-1<0");
        so(on, "5/-1<-4");
        so(on, "0>5/-1");
        so(on, "-5/-1>4");
        so(on, "5/-2<-2");
        notSo(on, "5/-1>-4");
    }

    private static void overZero(Edge on) {
        String[] lost = {"1/0", "0/0", "1/(2-2)", "-1/0", "1/(picks-60)", "1/min(0,1)", "1/-0", "5/0*0"};
        for (String sum : lost) {
            pay(on, "price 7; price " + sum + "; least 5;", 0);
        }
        pay(on, "price 7; price 1/1; least 5;", 8);
        pay(on, "price 7; price 1/-1; least 5;", 6);
        pay(on, "price 7; price 0/1; least 5;", 7);
        pay(on, "price 7; price 1/(picks-59); least 5;", 8);
        pay(on, "price 7; price 1/(picks-61); least 5;", 6);
    }

    private static void tooLarge(Edge on) {
        // 5000 * 5000 * 40 is 1000000000.
        pay(on, "price 5000*5000*40;", 100000);
        pay(on, "price 5000*5000*40-1;", 100000);
        pay(on, "price 5000*5000*40+1;", 0);
        pay(on, "price (5000*5000*40+0)/5000/5000;", 40);
        pay(on, "price (5000*5000*40-1)/5000/5000;", 39);
        pay(on, "price (5000*5000*40+1)/5000/5000;", 0);
        pay(on, "price (0-5000*5000*40)/5000/-5000;", 40);
        pay(on, "price (1-5000*5000*40)/5000/-5000;", 39);
        pay(on, "price (0-1-5000*5000*40)/5000/-5000; least 5;", 0);
        pay(on, "price (5000*5000*40+1)/7; least 5;", 0);
        pay(on, "price (0-1-5000*5000*40)/-7; least 5;", 0);
        pay(on, "price (0-5000*5000*40)/-7; least 5;", 100000);
        pay(on, "price 1/5000/5000/40*5000*5000*40;", 1);
        pay(on, "price 1/(5000*5000*40-1)*5000*5000*40;", 1);
        pay(on, "price 1/5000/5000/41; least 5;", 0);
        pay(on, "price 1/5000/5000/40; least 5;", 5);
        pay(on, "price 1/-5000/5000/40+1; least 5;", 5);
        pay(on, "price 1/-5000/5000/40+2; least 5;", 0);
        pay(on, "price 1/-5000/5000/41+1; least 5;", 0);
        pay(on, "price 9999*9999*10/10;", 100000);
        pay(on, "price 9999*9999*11/11;", 0);
        pay(on, "price 9999*9999*9999*9999*9999*0+5;", 0);
        pay(on, "price 9999*9999*(10/9999);", 99990);
        pay(on, "price 5000*5000*40; price 1; price 0-1; least 5;", 0);
        pay(on, "price 5000*5000*40; price 0-1; price 1; least 5;", 100000);
        pay(on, "price 5000*5000*40; extra 0 take 0; least 5;", 100000);
        pay(on, "price 5000*5000*40; extra 0 add 1; least 5;", 0);
        pay(on, "price 1/4999+1/5003; least 5;", 5);
        pay(on, "price 1/9999/9999+1/9998; least 5;", 0);
    }

    private static void lostComesIn(Edge on) {
        String[] lost = {"1/0", "0*(1/0)", "(1/0)*0", "1/0-1/0", "-(1/0)", "min(1/0,1)", "min(1,1/0)", "max(1/0,1)", "max(1,1/0)",
            "1/(1/0)", "(1/0)/0", "0/(1/0)", "1+1/0", "1/0+1", "1-1/0", "((1/0))"};
        for (String sum : lost) {
            pay(on, "price 7; price " + sum + "; least 5;", 0);
            pay(on, "price " + sum + "; price 7; least 5;", 0);
            pay(on, "price 7; extra 0 add " + sum + "; least 5;", 0);
            pay(on, "price 7; extra 0 take " + sum + "; extra 29 add 9; least 5;", 0);
            pay(on, "price 7; extra 1 add " + sum + "; least 5;", 7);
            pay(on, "price 7; when 1<2 take " + sum + ";", 0);
            pay(on, "price 7; when 2<1 take " + sum + ";", 7);
        }
    }

    private static void lostAsked(Edge on) {
        for (String asked : new String[] {"<", "<=", ">", ">=", "=", "#"}) {
            notSo(on, "1/0" + asked + "1");
            notSo(on, "1" + asked + "1/0");
            notSo(on, "1/0" + asked + "1/0");
            so(on, "not 1/0" + asked + "1");
            so(on, "not 1" + asked + "1/0");
            notSo(on, "not not 1/0" + asked + "1/0");
        }
        so(on, "0/1<1");
        notSo(on, "not 0/1<1");
    }

    private static void bothSides(Edge on) {
        so(on, "1<2 or 1/0=1");
        so(on, "1/0=1 or 1<2");
        notSo(on, "2<1 and 1/0=1");
        notSo(on, "1/0=1 and 1<2");
        notSo(on, "1<2 and 1/0=1");
        notSo(on, "1/0=1 or 2<1");
        so(on, "not 1/0=1 and 1<2");
        so(on, "2<1 or not 1/0=1");
        fault(on, "when 1<2 or 10000<1 add 1;", 2, 12);
        fault(on, "when 2<1 and 10000<1 add 1;", 2, 13);
    }

    private static void forces(Edge on) {
        MillTown t = kindTown();
        Due.read(t, "price 1;");
        for (int force = 0; force < 60; force++) {
            on.is("FORCE " + force, t.force(0, NONE, force, 399), force);
        }
        on.none(t, "a 61st", () -> t.force(0, NONE, 0, 399));
        on.is("there are 60", t.about(6), 60);
        on.is("the last is FORCE 59", t.why(0, 0, 59, 0, NONE), 59);
        on.is("the one ahead of it", t.why(0, 0, 58, 0, NONE), 58);
        t.back();
        on.is("BACK to none", t.about(6), 0);
    }

    private static void weeksOfForces(Edge on) {
        MillTown t = kindTown();
        t.mill(1, 50, 0, 0);
        t.mill(1, 50, 0, 0);
        Due.read(t, "price 1;");
        Due.read(t, "price 2;");
        t.force(0, NONE, 0, 399);
        t.force(1, 1, 5, 8);
        int[][] due = {{1, 4, 1}, {1, 5, 2}, {1, 6, 2}, {1, 7, 2}, {1, 8, 2}, {1, 9, 1}, {0, 5, 1}, {2, 8, 1}, {0, 0, 1},
            {2, 399, 1}};
        for (int[] d : due) {
            on.is("PAY at MILL " + d[0] + " in " + d[1], t.pay(0, d[0], d[1], 0), d[2]);
        }
        t.force(1, NONE, 20, 20);
        for (int mill = 0; mill < 3; mill++) {
            on.is("ahead of one WEEK", t.pay(0, mill, 19, 0), 1);
            on.is("in one WEEK", t.pay(0, mill, 20, 0), 2);
            on.is("behind one WEEK", t.pay(0, mill, 21, 0), 1);
        }
    }

    private static void toldThen(Edge on) {
        MillTown t = kindTown();
        t.weeks(3);
        Due.enforce(t, "price 7;");
        on.is("as KNOWN ahead of the clock then", t.pay(0, 0, 5, 2), 0);
        on.is("as KNOWN in the clock then", t.pay(0, 0, 5, 3), 7);
        on.is("as KNOWN behind it", t.pay(0, 0, 5, 4), 7);
        on.is("as KNOWN in the last WEEK", t.pay(0, 0, 3, 399), 7);
        on.is("in no WEEK ahead of it", t.pay(0, 0, 2, 399), 0);
    }

    private static void known(Edge on) {
        MillTown t = kindTown();
        for (int week = 0; week < 3; week++) {
            Due.enforce(t, "price " + (week + 1) + "; age 0 to 99 hours " + (week + 1) + ";");
            t.weeks(1);
        }
        int[] due = {1, 2, 3, 3};
        for (int known = 0; known < 4; known++) {
            on.is("PAY as KNOWN in " + known, t.pay(0, 0, 9, known), due[known]);
            on.is("HOURS as KNOWN in " + known, t.hours(30, 0, 9, known), due[known]);
            on.is("why as KNOWN in " + known, t.why(0, 0, 9, known, NONE), due[known] - 1);
        }
    }

    private static void latest(Edge on) {
        MillTown t = kindTown();
        Due.enforce(t, "price 1; age 0 to 99 hours 10; meals 1; clean 1;");
        Due.enforce(t, "price 2;");
        on.is("PAY by the latest", t.pay(0, 0, 0, 0), 2);
        on.is("HOURS by the one that has age, meals and clean", t.hours(30, 0, 0, 0), 8);
        Due.enforce(t, "extra 0 add 9; when 1<2 add 9; least 9;");
        on.is("PAY by the latest with price", t.pay(0, 0, 0, 0), 2);
        Due.enforce(t, "meals 3;");
        on.is("HOURS by the latest with meals", t.hours(30, 0, 0, 0), 6);
        Due.enforce(t, "clean 4;");
        on.is("HOURS by the latest with clean", t.hours(30, 0, 0, 0), 3);
        Due.enforce(t, "meals 0;");
        on.is("HOURS with meals of 0", t.hours(30, 0, 0, 0), 6);
        Due.enforce(t, "age 31 to 99 hours 70;");
        on.is("HOURS of an AGE that the latest with age hasn't", t.hours(30, 0, 0, 0), 0);
        on.is("HOURS of an AGE that it has", t.hours(31, 0, 0, 0), 66);
        t.force(0, 0, 0, 0);
        on.is("the first TEXT again, told latest", t.pay(0, 0, 0, 0), 1);
        on.is("in that WEEK alone", t.pay(0, 0, 1, 0), 2);
    }

    private static void counted(Edge on) {
        pay(on, "price 10; extra 0 add 5; extra 1 add 70; extra 28 add 70; extra 29 take 2;", 13);
        pay(on, "price 10; when picks<60 add 1; when picks<61 add 2; when picks<59 add 4;", 12);
        pay(on, "extra 0 take 30; price 10; extra 29 add 25;", 5);
        pay(on, "extra 0 add 1/2; price 10; when 1<2 add 1/2;", 11);
        MillTown t = kindTown();
        Due.enforce(t, "price 10; extra 0 add 1; extra 29 add 2;");
        on.is("a KIND without EXTRAS", t.pay(1, 0, 0, 0), 10);
        on.is("a KIND with both", t.pay(0, 0, 0, 0), 13);
    }

    private static void cut(Edge on) {
        pay(on, "price 29/10;", 2);
        pay(on, "price 30/10;", 3);
        pay(on, "price 31/10;", 3);
        pay(on, "price 1/2; price 1/2;", 1);
        pay(on, "price 1/2; extra 0 add 1/3; when 1<2 add 1/6;", 1);
        pay(on, "price 9998/9999;", 0);
        pay(on, "price 9999/9999;", 1);
        pay(on, "price 0-1/2;", 0);
    }

    private static void bounds(Edge on) {
        int[][] least = {{8, 9}, {9, 9}, {10, 10}};
        for (int[] d : least) {
            pay(on, "price " + d[0] + "; least 3; least 9; least 7;", d[1]);
        }
        pay(on, "price 1/2; least 1;", 1);
        pay(on, "price 0-1;", 0);
        pay(on, "price 0;", 0);
        pay(on, "price 0+1;", 1);
        pay(on, "price 0-5; least 3;", 3);
        pay(on, "price 9999*10+9;", 99999);
        pay(on, "price 9999*10+10;", 100000);
        pay(on, "price 9999*10+11;", 100000);
        pay(on, "price 9999*10+11; least 9999;", 100000);
    }

    private static void noPay(Edge on) {
        MillTown t = kindTown();
        on.is("without any TEXT", t.pay(0, 0, 0, 0), 0);
        Due.enforce(t, "least 7; extra 0 add 5; when 1<2 add 5;");
        on.is("without one that has price", t.pay(0, 0, 0, 0), 0);
        Due.enforce(t, "price 0; least 7;");
        on.is("with one that has price", t.pay(0, 0, 0, 0), 7);
        Due.enforce(t, "price 1/0; least 7;");
        on.is("LOST", t.pay(0, 0, 0, 0), 0);
        t.weeks(1);
        Due.enforce(t, "price 3;");
        on.is("ahead of its WEEK", t.pay(0, 0, 0, 1), 0);
        on.is("in its WEEK", t.pay(0, 0, 1, 1), 3);
    }

    private static void ages(Edge on) {
        MillTown t = kindTown();
        on.is("without a TEXT", t.hours(30, 0, 0, 0), 60);
        Due.enforce(t, "price 1;");
        on.is("without one that has age", t.hours(30, 0, 0, 0), 60);
        Due.enforce(t, "age 10 to 12 hours 30; age 12 to 20 hours 50; age 30 to 30 hours 0; age 98 to 99 hours 80;");
        int[][] due = {{0, 0}, {9, 0}, {10, 30}, {11, 30}, {12, 30}, {13, 50}, {19, 50}, {20, 50}, {21, 0}, {29, 0}, {30, 0},
            {97, 0}, {98, 80}, {99, 80}};
        for (int[] d : due) {
            on.is("HOURS of " + d[0], t.hours(d[0], 0, 0, 0), d[1]);
        }
        Due.enforce(t, "age 0 to 0 hours 7;");
        on.is("HOURS of 0", t.hours(0, 0, 0, 0), 7);
        on.is("HOURS of 1", t.hours(1, 0, 0, 0), 0);
    }

    private static void breaks(Edge on) {
        MillTown t = kindTown();
        Due.enforce(t, "age 0 to 0 hours 9; age 1 to 1 hours 10; age 2 to 2 hours 11; meals 3; meals 6; meals 2; clean 4; clean 0;");
        on.is("one hour too few", t.hours(0, 0, 0, 0), 0);
        on.is("just as many", t.hours(1, 0, 0, 0), 0);
        on.is("one more", t.hours(2, 0, 0, 0), 1);
        on.is("none at all", t.hours(3, 0, 0, 0), 0);
        Due.enforce(t, "clean 20;");
        Due.enforce(t, "meals 20;");
        on.is("the most of both", t.hours(2, 0, 0, 0), 0);
        MillTown none = kindTown();
        Due.enforce(none, "meals 20; clean 20; meals 19;");
        on.is("60 less both", none.hours(2, 0, 0, 0), 20);
    }

    private static void fed(Edge on) {
        MillTown t = new MillTown();
        for (int i = 1; i <= 15; i++) {
            on.is("feed " + i, t.feed(0, 0, 0, 0, 0), 20 * i);
            on.is("bytes", t.about(10), 20 * i);
        }
        t.end(0);
        t.feed('a' << 24 | 'g' << 16 | 'e' << 8 | ' ', '0' << 24 | ' ' << 16 | 't' << 8 | 'o',
                ' ' << 24 | '9' << 16 | ' ' << 8 | 'h', 'o' << 24 | 'u' << 16 | 'r' << 8 | 's',
                ' ' << 24 | '8' << 16 | '0' << 8 | ';');
        on.is("the bytes in their order", t.text(), 0);
        for (int at = 0; at < 20; at++) {
            int[] fours = {0x20202020, 0x20202020, 0x20202020, 0x20202020, 0x20202020};
            fours[at / 4] ^= 0xdf << 24 - at % 4 * 8;
            on.is("byte 255 at " + at, t.feed(fours[0], fours[1], fours[2], fours[3], fours[4]), 20);
            on.is("it is a FAULT", t.text(), NONE);
            on.is("its place", t.fault(1), at);
        }
        Due.feed(t, (char) ('p' + 128) + "rice 1;");
        on.is("a byte of 128 more is another", t.text(), NONE);
    }

    private static void fedTooMuch(Edge on) {
        MillTown t = new MillTown();
        for (int i = 1; i <= 15; i++) {
            t.feed(0x20202020, 0x20202020, 0x20202020, 0x20202020, 0x20202020);
        }
        on.none(t, "beyond 300 from 300", () -> t.feed(1, 1, 1, 1, 1));
        t.end(281);
        on.none(t, "beyond 300 from 281", () -> t.feed(1, 1, 1, 1, 1));
        on.is("it is as it was", t.text(), 0);
        for (int i = 1; i <= 14; i++) {
            t.feed(0, 0, 0, 0, 0);
        }
        t.end(279);
        on.is("from 279", t.feed(1, 1, 1, 1, 1), 299);
        t.end(280);
        on.is("from 280", t.feed(1, 1, 1, 1, 1), 300);
        t.end(299);
        on.none(t, "beyond 300 from 299", () -> t.feed(1, 1, 1, 1, 1));
    }

    private static void ended(Edge on) {
        MillTown t = new MillTown();
        on.is("end(0) of none", t.end(0), 0);
        for (int n : new int[] {20, 19, 1, 0}) {
            Due.feed(t, "price 1; price 2; !!");
            on.is("end(" + n + ")", t.end(n), n);
            on.is("bytes then", t.about(10), n);
        }
        Due.feed(t, "price 1;!");
        t.end(8);
        on.is("without its end", t.text(), 0);
        Due.feed(t, "price 1; price 2;   ");
        t.end(7);
        t.feed(0x20202020, 0x20202020, 0x20202020, 0x20202020, 0x2020203b);
        on.is("what comes behind it", t.text(), 1);
    }

    private static void endRefused(Edge on) {
        MillTown t = new MillTown();
        on.none(t, "end(1) of none", () -> t.end(1));
        on.none(t, "end(-1) of none", () -> t.end(-1));
        t.feed(0, 0, 0, 0, 0);
        on.none(t, "end(21) of 20", () -> t.end(21));
        on.none(t, "end(-1) of 20", () -> t.end(-1));
        on.none(t, "end of the least", () -> t.end(Integer.MIN_VALUE));
        on.none(t, "end of the most", () -> t.end(Integer.MAX_VALUE));
        on.is("end(20) of 20", t.end(20), 20);
        on.is("end(19) of 20", t.end(19), 19);
        on.none(t, "end(20) of 19", () -> t.end(20));
        for (int i = 0; i < 14; i++) {
            t.feed(0, 0, 0, 0, 0);
        }
        t.end(280);
        t.feed(0, 0, 0, 0, 0);
        on.none(t, "end(301) of 300", () -> t.end(301));
        on.is("end(300) of 300", t.end(300), 300);
    }

    private static void textTold(Edge on) {
        MillTown t = new MillTown();
        on.is("an empty tape", t.text(), 0);
        on.is("the tape then", t.about(10), 0);
        on.is("the next", Due.read(t, "price 1; least 2;"), 1);
        on.is("the tape then", t.about(10), 0);
        on.is("its CLAUSES", t.about(15), 2);
        on.is("an empty tape again", t.text(), 2);
        on.is("no CLAUSES", t.about(15), 0);
        t.back();
        on.is("BACK to none", Due.read(t, "price 1;"), 0);
    }

    private static void textRefused(Edge on) {
        MillTown t = kindTown();
        on.is("a FAULT", Due.read(t, "price ;"), NONE);
        on.is("no TEXT", t.about(5), 0);
        on.is("the tape behind a FAULT", t.about(10), 0);
        for (int text = 0; text < 20; text++) {
            on.is("TEXT " + text, Due.read(t, "clean 1;"), text);
            if (text == 18) {
                on.is("a FAULT with 19", Due.read(t, "price ;"), NONE);
            }
        }
        on.is("the FAULT of the 20th", t.fault(0), 0);
        Due.feed(t, "price ;");
        on.none(t, "a 21st", t::text);
        on.is("the tape stays", t.about(10), 7);
        on.is("it wasn't read", t.fault(0), 0);
        t.back();
        on.is("the tape stays behind BACK", t.about(10), 7);
        on.is("it is read now", t.text(), NONE);
        on.is("its FAULT", t.fault(0), 1);
    }

    private static void faultTold(Edge on) {
        MillTown t = new MillTown();
        Due.read(t, "price 1;");
        on.is("FAULT without one", t.fault(0), 0);
        on.is("place without one", t.fault(1), NONE);
        Due.read(t, "!");
        on.is("FAULT at the first byte", t.fault(0), 1);
        on.is("place at the first byte", t.fault(1), 0);
        Due.read(t, "price (((((((((1");
        on.is("FAULT", t.fault(0), 3);
        on.is("place", t.fault(1), 14);
        t.back();
        on.is("FAULT behind BACK", t.fault(0), 3);
        on.is("place behind BACK", t.fault(1), 14);
        Due.read(t, "price 10000;");
        on.is("FAULT", t.fault(0), 2);
        Due.read(t, LEAST_24 + "least");
        on.is("FAULT", t.fault(0), 4);
        t.text();
        on.is("FAULT of the latest, an empty one", t.fault(0), 0);
        on.is("its place", t.fault(1), NONE);
    }

    private static void faultRefused(Edge on) {
        MillTown t = new MillTown();
        on.none(t, "FAULT ahead of any", () -> t.fault(0));
        on.none(t, "place ahead of any", () -> t.fault(1));
        Due.feed(t, "price ;");
        on.none(t, "FAULT of what is fed alone", () -> t.fault(0));
        t.text();
        on.none(t, "fault(-1)", () -> t.fault(-1));
        on.unchanged(t, "fault(0)", () -> t.fault(0), 1);
        on.unchanged(t, "fault(1)", () -> t.fault(1), 6);
        on.none(t, "fault(2)", () -> t.fault(2));
    }

    private static void forceRefused(Edge on) {
        MillTown t = kindTown();
        on.none(t, "without a TEXT", () -> t.force(0, NONE, 0, 0));
        Due.read(t, "price 1;");
        Due.read(t, "price 2;");
        t.weeks(3);
        int[][] others = {{-1, NONE, 3, 3}, {2, NONE, 3, 3}, {0, -2, 3, 3}, {0, 1, 3, 3}, {0, 0, 2, 3}, {0, 0, -1, 3},
            {0, 0, 4, 3}, {0, 0, 3, 400}, {0, 0, 400, 400}, {0, 0, 3, 2}, {0, 0, 3, Integer.MAX_VALUE}};
        for (int[] o : others) {
            on.none(t, "force" + java.util.Arrays.toString(o), () -> t.force(o[0], o[1], o[2], o[3]));
        }
        on.is("from the clock to it", t.force(0, 0, 3, 3), 0);
        on.is("from behind the clock", t.force(1, NONE, 4, 4), 1);
        on.is("in the last WEEK", t.force(0, NONE, 399, 399), 2);
        for (int force = 3; force < 60; force++) {
            on.is("FORCE " + force, t.force(0, NONE, 5, 399), force);
        }
        on.none(t, "a 61st", () -> t.force(0, NONE, 5, 399));
    }

    private static final int[][] NOT_ASKED = {{-1, 0, 0, 0}, {6, 0, 0, 0}, {0, -1, 0, 0}, {0, 2, 0, 0}, {0, 0, -1, 0},
        {0, 0, 400, 0}, {0, 0, 0, -1}, {0, 0, 0, 400}};

    private static MillTown payTown() {
        MillTown t = kindTown();
        t.mill(1, 50, 0, 0);
        Due.enforce(t, "price 4;");
        return t;
    }

    private static void payRefused(Edge on) {
        MillTown t = payTown();
        for (int[] o : NOT_ASKED) {
            on.none(t, "pay" + java.util.Arrays.toString(o), () -> t.pay(o[0], o[1], o[2], o[3]));
        }
        on.unchanged(t, "pay(0, 0, 0, 0)", () -> t.pay(0, 0, 0, 0), 4);
        on.unchanged(t, "pay(5, 1, 399, 399)", () -> t.pay(5, 1, 399, 399), 4);
    }

    private static void whyForce(Edge on) {
        MillTown t = kindTown();
        on.is("without a FORCE", t.why(0, 0, 0, 0, NONE), NONE);
        Due.enforce(t, "least 1;");
        on.is("without one that has price", t.why(0, 0, 0, 0, NONE), NONE);
        Due.enforce(t, "price 1;");
        on.is("by FORCE 1", t.why(0, 0, 0, 0, NONE), 1);
        t.force(1, 0, 5, 6);
        on.is("by FORCE 2", t.why(0, 0, 5, 0, NONE), 2);
        on.is("behind it by FORCE 1", t.why(0, 0, 7, 0, NONE), 1);
        Due.enforce(t, "price 1/0;");
        on.is("by which FORCE it is LOST", t.why(0, 0, 0, 0, NONE), 3);
        MillTown first = payTown();
        on.is("by FORCE 0", first.why(0, 0, 0, 0, NONE), 0);
    }

    private static void whyClause(Edge on) {
        why(on, "price 1;", 0);
        why(on, "least 3; price 1; extra 1 add 1; extra 0 add 1; when 1<2 add 1; when 1>2 add 1; price 2;", 1, 3, 4, 6);
        why(on, "extra 0 add 1; price 5;", 0, 1);
        why(on, "extra 1 add 1/0; meals 1; when 1/0=1 add 1; price 5;", 3);
        why(on, "when 1<2 take 1/0; price 5;");
        why(on, "price 1/0;");
        why(on, "least 1; extra 0 add 1;");
        why(on, "price 1;".repeat(24), 0, 1, 2, 3, 4, 5, 6, 7, 8, 9, 10, 11, 12, 13, 14, 15, 16, 17, 18, 19, 20, 21, 22, 23);
        why(on, "meals 1;".repeat(23) + "price 1;", 23);
    }

    private static void why(Edge on, String text, int... due) {
        MillTown t = kindTown();
        Due.enforce(t, text);
        for (int i = 0; i < due.length; i++) {
            on.is("why " + i + " by " + text, t.why(0, 0, 0, 0, i), due[i]);
        }
        on.is("why behind them by " + text, t.why(0, 0, 0, 0, due.length), NONE);
        on.is("why far behind them by " + text, t.why(0, 0, 0, 0, Integer.MAX_VALUE), NONE);
    }

    private static void whyRefused(Edge on) {
        MillTown t = payTown();
        for (int[] o : NOT_ASKED) {
            on.none(t, "why" + java.util.Arrays.toString(o), () -> t.why(o[0], o[1], o[2], o[3], NONE));
            on.none(t, "why" + java.util.Arrays.toString(o), () -> t.why(o[0], o[1], o[2], o[3], 0));
        }
        on.none(t, "why -2", () -> t.why(0, 0, 0, 0, -2));
        on.none(t, "why of the least", () -> t.why(0, 0, 0, 0, Integer.MIN_VALUE));
        on.unchanged(t, "why(5, 1, 399, 399, 0)", () -> t.why(5, 1, 399, 399, 0), 0);
        on.unchanged(t, "why(5, 1, 399, 399, NONE)", () -> t.why(5, 1, 399, 399, NONE), 0);
    }

    private static void hoursRefused(Edge on) {
        MillTown t = payTown();
        int[][] others = {{-1, 0, 0, 0}, {100, 0, 0, 0}, {30, -1, 0, 0}, {30, 2, 0, 0}, {30, 0, -1, 0}, {30, 0, 400, 0},
            {30, 0, 0, -1}, {30, 0, 0, 400}};
        for (int[] o : others) {
            on.none(t, "hours" + java.util.Arrays.toString(o), () -> t.hours(o[0], o[1], o[2], o[3]));
        }
        on.unchanged(t, "hours(0, 0, 0, 0)", () -> t.hours(0, 0, 0, 0), 60);
        on.unchanged(t, "hours(99, 1, 399, 399)", () -> t.hours(99, 1, 399, 399), 60);
    }
}
