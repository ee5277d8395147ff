/** Promises 11 to 18: the tape, TEXTS and their FAULTS, FORCES, PAY and HOURS. */
public final class TextTests {
    private static final int NONE = MillTown.NONE;
    private static final Due DUE = new Due("TextTests");

    private static void tape() {
        MillTown t = new MillTown();
        DUE.is(12, "end(0) of an empty tape", t.end(0), 0);
        DUE.is(12, "end(1) of an empty tape", t.end(1), NONE);
        DUE.is(12, "end(-1)", t.end(-1), NONE);
        for (int i = 1; i <= 15; i++) {
            DUE.is(11, "feed " + i, t.feed(0, 0, 0, 0, 0), 20 * i);
        }
        DUE.is(11, "feed beyond 300", t.feed(1, 1, 1, 1, 1), NONE);
        DUE.is(11, "bytes of the tape", t.about(10), 300);
        DUE.is(12, "end(301)", t.end(301), NONE);
        DUE.is(12, "end(281)", t.end(281), 281);
        DUE.is(11, "feed beyond 300 from 281", t.feed(1, 1, 1, 1, 1), NONE);
        DUE.is(12, "end(280)", t.end(280), 280);
        DUE.is(11, "feed to 300", t.feed(1, 1, 1, 1, 1), 300);
        DUE.is(12, "end(280) again", t.end(280), 280);
        DUE.is(12, "end(300) of 280", t.end(300), NONE);
        DUE.is(12, "bytes of the tape", t.about(10), 280);
        t.end(0);
        // "age 0 to 9 hours 80;": twenty bytes in their order.
        t.feed('a' << 24 | 'g' << 16 | 'e' << 8 | ' ', '0' << 24 | ' ' << 16 | 't' << 8 | 'o',
                ' ' << 24 | '9' << 16 | ' ' << 8 | 'h', 'o' << 24 | 'u' << 16 | 'r' << 8 | 's',
                ' ' << 24 | '8' << 16 | '0' << 8 | ';');
        DUE.is(11, "text() of fed bytes", t.text(), 0);
        DUE.is(11, "its fault", t.fault(0), 0);
        t.feed(-1, 0, 0, 0, 0);
        t.end(1);
        DUE.is(11, "text() of byte 255", t.text(), NONE);
        DUE.is(11, "its fault", t.fault(0), 1);
    }

    private static void texts() {
        MillTown t = new MillTown();
        DUE.is(14, "fault(0) ahead of any", t.fault(0), NONE);
        DUE.is(14, "fault(1) ahead of any", t.fault(1), NONE);
        DUE.is(13, "an empty text", t.text(), 0);
        DUE.is(14, "its fault", t.fault(0), 0);
        DUE.is(14, "its place", t.fault(1), NONE);
        DUE.is(13, "its clauses", t.about(15), 0);
        DUE.is(13, "a text", Due.read(t, "price 1; least 2; meals 3;"), 1);
        DUE.is(13, "the tape behind it", t.about(10), 0);
        DUE.is(13, "its clauses", t.about(15), 3);
        DUE.is(13, "a text with a fault", Due.read(t, "price ;"), NONE);
        DUE.is(13, "the tape behind a fault", t.about(10), 0);
        DUE.is(13, "texts", t.about(5), 2);
        DUE.is(13, "clauses of the latest text", t.about(15), 3);
        DUE.is(14, "fault(0)", t.fault(0), 1);
        DUE.is(14, "fault(1)", t.fault(1), 6);
        DUE.is(14, "fault(2)", t.fault(2), NONE);
        DUE.is(14, "fault(-1)", t.fault(-1), NONE);
        for (int i = 2; i < 20; i++) {
            DUE.is(13, "text " + i, Due.read(t, "clean 1;"), i);
        }
        t.back();
        DUE.is(14, "a fault stays behind back", t.fault(0), 0);
        for (int i = 0; i < 20; i++) {
            Due.read(t, "clean 1;");
        }
        DUE.is(13, "the 21st text", Due.read(t, "price ;"), NONE);
        DUE.is(13, "the tape stays", t.about(10), 7);
        DUE.is(14, "it was not read", t.fault(0), 0);
        t.back();
        DUE.is(13, "the tape is as it was behind back", t.about(10), 7);
        DUE.is(13, "it is read now", t.text(), NONE);
        DUE.is(14, "its place", t.fault(1), 6);
    }

    /** However many long TEXTS had a FAULT, or went with BACK, nothing of them is left in the next one. */
    private static void textsInPlaceOfOthers() {
        MillTown t = new MillTown();
        t.mill(1, 50, 0, 0);
        t.image();
        for (int i = 0; i < 5; i++) {
            DUE.is(13, "a long text with a fault", Due.read(t, "price 1" + "+1".repeat(140) + ";;"), NONE);
            DUE.is(14, "its place", t.fault(1), 288);
            Due.enforce(t, "least 9; extra 0 add 5; price 2" + "+2".repeat(120) + ";");
            DUE.is(16, "pay by it", t.pay(0, 0, 0, 0), 242);
            t.back();
        }
        Due.enforce(t, "price 3+4;");
        DUE.is(13, "clauses of the next text", t.about(15), 1);
        DUE.is(16, "pay by the next text", t.pay(0, 0, 0, 0), 7);
        DUE.is(17, "why by the next text", t.why(0, 0, 0, 0, 0), 0);
    }

    private static void fault(String text, int what, int place) {
        MillTown t = new MillTown();
        DUE.is(13, "text() of " + text, Due.read(t, text), what == 0 ? 0 : NONE);
        DUE.is(14, "the fault of " + text, t.fault(0), what);
        DUE.is(14, "the place of it in " + text, t.fault(1), place);
    }

    private static void right(String text) {
        fault(text, 0, NONE);
    }

    private static void places() {
        right("");
        right(" \n ");
        right("price 1;price\n2\n;\n");
        right("price0;least9999;meals20;clean20;");
        right("extra 0 add 1;extra 29 take 1;");
        right("age 0 to 0 hours 0; age 99 to 99 hours 80;");
        right("when not 1<2 and 2<=picks or width>3 and 4>=yarn or 5=hard or 6#7 add 1;");
        right("price min(1,2)*max ( 3 , picks ) / -1;");
        right("price 0009999;");
        fault("price\t1;", 1, 5);
        fault("price\r1;", 1, 5);
        fault("Price 1;", 1, 0);
        fault("pric 1;", 1, 0);
        fault("prices 1;", 1, 0);
        fault("Z", 1, 0);
        fault("z", 1, 0);
        fault("pricepicks;", 1, 0);
        for (String letter : new String[] {"a", "z", "A", "Z"}) {
            fault("price" + letter + " 1;", 1, 0);
        }
        for (String none : new String[] {"@", "[", "`", "{", ":", "!", "~", "\u0000", "\u00e9"}) {
            fault("price" + none + " 1;", 1, 5);
        }
        fault(" 1;", 1, 1);
        fault(";", 1, 0);
        fault("price 1", 1, 7);
        fault("price 1  ", 1, 9);
        fault("price", 1, 5);
        fault("price 1 1;", 1, 8);
        fault("price 1);", 1, 7);
        fault("price (1;", 1, 8);
        fault("price ();", 1, 7);
        fault("price 1+;", 1, 8);
        fault("price +1;", 1, 6);
        fault("price *1;", 1, 6);
        fault("price 1,2;", 1, 7);
        fault("price min 1;", 1, 10);
        fault("price min(1);", 1, 11);
        fault("price min(1,2;", 1, 13);
        fault("price max(1,2,3);", 1, 13);
        fault("price 1 < 2;", 1, 8);
        fault("price age;", 1, 6);
        fault("price !;", 1, 6);
        fault("extra add 1;", 1, 6);
        fault("extra 1 1;", 1, 8);
        fault("extra 1 price 1;", 1, 8);
        fault("extra picks add 1;", 1, 6);
        fault("when 1 add 1;", 1, 7);
        fault("when 1<2<3 add 1;", 1, 8);
        fault("when 1< =2 add 1;", 1, 8);
        fault("when (1<2) add 1;", 1, 7);
        fault("when 1<2 or add 1;", 1, 12);
        fault("when 1<2 not 1<2 add 1;", 1, 9);
        fault("when 1<2 add;", 1, 12);
        fault("when add 1;", 1, 5);
        fault("least;", 1, 5);
        fault("least 1+1;", 1, 7);
        fault("least -1;", 1, 6);
        fault("age 1 2 hours 3;", 1, 6);
        fault("age 1 to 2 3;", 1, 11);
        fault("meals 1 clean 1;", 1, 8);
        fault("price 10000;", 2, 6);
        fault("price 99999999999999999999999999;", 2, 6);
        fault("price 4294967296;", 2, 6);
        fault("least 10000;", 2, 6);
        fault("extra 30 add 1;", 2, 6);
        fault("extra 10000 10000;", 2, 6);
        fault("age 100 to 100 hours 1;", 2, 4);
        fault("age 5 to 4 hours 1;", 2, 9);
        fault("age 5 to 100 hours 1;", 2, 9);
        fault("age 5 to 6 hours 81;", 2, 17);
        fault("meals 21;", 2, 6);
        fault("clean 21;", 2, 6);
        fault("price 1 10000;", 1, 8);
        fault("10000", 1, 0);
        fault("price 1; extra 30 add 1; price ;", 2, 15);
    }

    private static void depths() {
        right("price ((((((((1))))))));");
        right("price --------1;");
        right("price -(min(-(max(-(1),2)),3));");
        right("price ((((1))))+((((1))))*--------1;");
        right("when not not not not not not not not 1<2 add 1;");
        right("when not not not not not not not -1<(2) and not (((((((1)))))))=1 add ((((((((1))))))));");
        right("price min(min(min(min(min(min(min(min(1,2),2),2),2),2),2),2),2);");
        right("price min(1,(((((((2))))))));");
        right("price max((((((((1))))))),-------2);");
        fault("price min(1,((((((((2)))))))));", 3, 19);
        fault("price (((((((((1)))))))));", 3, 14);
        fault("price ---------1;", 3, 14);
        fault("price --------(1);", 3, 14);
        fault("price --------min(1,2);", 3, 17);
        fault("price --------min 1;", 1, 18);
        fault("price --------);", 1, 14);
        fault("price 1+(--------1);", 3, 16);
        fault("price -------min(1,-2);", 3, 19);
        fault("price -------min(-1,2);", 3, 17);
        fault("price (1)-(--------1);", 3, 18);
        fault("when not not not not not not not not not 1<2 add 1;", 3, 37);
        fault("when not not not not not not not not -1<2 add 1;", 3, 37);
        fault("when not not not not not not not not 1<-2 add 1;", 3, 39);
        fault("when 1<2 and not not not not not not not not (1)<2 add 1;", 3, 45);
        StringBuilder many = new StringBuilder();
        for (int i = 0; i < 24; i++) {
            many.append("least 1;");
        }
        right(many.toString());
        fault(many + "least 1;", 4, 192);
        fault(many + " least", 4, 193);
        fault(many + "1", 1, 192);
        fault(many + "price ;", 4, 192);
        fault(many + " !", 1, 193);
    }

    /** As many TOKENS as a tape can hold. */
    private static void fullTapes() {
        StringBuilder sum = new StringBuilder("price 1");
        StringBuilder signs = new StringBuilder("price ");
        while (sum.length() < 299) {
            sum.append("+1");
        }
        while (signs.length() < 300) {
            signs.append("1+");
        }
        right(sum + ";");
        pay(sum + ";", 147);
        fault(sum + "+", 1, 300);
        fault(signs.toString(), 1, 300);
        StringBuilder same = new StringBuilder();
        for (int i = 0; i < 300; i++) {
            same.append(';');
        }
        fault(same.toString(), 1, 0);
        fault(same.toString().replace(';', '('), 1, 0);
        fault("price " + same.substring(6).replace(';', '('), 3, 14);
        fault("price " + same.substring(6).replace(';', '9'), 2, 6);
        fault("price" + same.substring(5).replace(';', 'e'), 1, 0);
        fault("when not " + same.substring(9).replace(';', '-'), 3, 16);
        fault("price 1" + same.substring(7).replace(';', ' '), 1, 300);
    }

    private static void forces() {
        MillTown t = new MillTown();
        DUE.is(15, "force without a text", t.force(0, NONE, 0, 0), NONE);
        Due.read(t, "price 1;");
        Due.read(t, "price 2;");
        Due.read(t, "meals 3;");
        DUE.is(15, "force at a mill that isn't there", t.force(0, 0, 0, 0), NONE);
        t.mill(1, 50, 0, 0);
        t.mill(1, 50, 0, 0);
        int[][] others = {{-1, NONE, 0, 0}, {3, NONE, 0, 0}, {0, -2, 0, 0}, {0, 2, 0, 0}, {0, 0, -1, 0}, {0, 0, 1, 0},
            {0, 0, 0, 400}, {0, 0, 400, 400}};
        for (int[] o : others) {
            DUE.is(15, "force" + java.util.Arrays.toString(o), t.force(o[0], o[1], o[2], o[3]), NONE);
        }
        DUE.is(15, "force(0, NONE, 2, 20)", t.force(0, NONE, 2, 20), 0);
        DUE.is(15, "force(1, 1, 5, 8)", t.force(1, 1, 5, 8), 1);
        DUE.is(15, "force(2, NONE, 0, 399)", t.force(2, NONE, 0, 399), 2);
        int[][] due = {{0, 1, 0}, {0, 2, 1}, {0, 20, 1}, {0, 21, 0}, {1, 4, 1}, {1, 5, 2}, {1, 8, 2}, {1, 9, 1}, {0, 5, 1}};
        for (int[] d : due) {
            DUE.is(16, "pay at " + d[0] + " in " + d[1], t.pay(0, d[0], d[1], 0), d[2]);
        }
        t.weeks(3);
        DUE.is(15, "a force from before the clock", t.force(1, NONE, 2, 399), NONE);
        DUE.is(15, "a force from the clock", t.force(1, NONE, 3, 3), 3);
        DUE.is(16, "as known then", t.pay(0, 0, 3, 2), 1);
        DUE.is(16, "as known now", t.pay(0, 0, 3, 3), 2);
        DUE.is(16, "as known later", t.pay(0, 0, 3, 399), 2);
        for (int i = 4; i < 60; i++) {
            DUE.is(15, "force " + i, t.force(0, NONE, 3, 399), i);
        }
        DUE.is(15, "the 61st force", t.force(0, NONE, 3, 399), NONE);
        DUE.is(15, "forces", t.about(6), 60);
        DUE.is(30, "tried with 60 forces", t.tried(1, NONE, 1, 0), 0);
        DUE.is(15, "forces behind tried", t.about(6), 60);
    }

    /** PAY of KIND 0: PICKS 60, WIDTH 30, YARN 10, HARD 4, the EXTRAS 0 and 29. */
    private static void pay(String text, int due) {
        MillTown t = new MillTown();
        t.mill(1, 50, 0, 0);
        t.kind(0, 60, 30, 10, 4, 1 | 1 << 29);
        Due.enforce(t, text);
        DUE.is(16, "pay by " + text, t.pay(0, 0, 0, 0), due);
    }

    private static void sums() {
        pay("price 7;", 7);
        pay("least 7;", 0);
        pay("", 0);
        pay("price 1;price 2;price 3;", 6);
        pay("price picks;price width;price yarn;price hard;", 104);
        pay("price 1+2*3;", 7);
        pay("price (1+2)*3;", 9);
        pay("price 10-3-2;", 5);
        pay("price 100/10/5;", 2);
        pay("price 7/2*2;", 7);
        pay("price 1/3+1/3+1/3;", 1);
        pay("price 29/10;", 2);
        pay("price 5-8;", 0);
        pay("price 0-1/2;least 3;", 3);
        pay("price -5+8;", 3);
        pay("price --5;", 5);
        pay("price 8/-2+9;", 5);
        pay("price -8/-2;", 4);
        pay("price min(3,2)+max(3,2)*10;", 32);
        pay("price min(1/3,1/2)*6 + max(-1/3,-1/2)*-30;", 12);
        pay("price 9999*9999;", 100000);
        pay("price 9999*10+10;", 100000);
        pay("price 9999*10+9;", 99999);
        pay("price 5;least 9;least 12;least 3;", 12);
        pay("price 50;least 9;", 50);
        pay("price 10; extra 0 add 5; extra 1 add 7; extra 29 take 2;", 13);
        pay("extra 0 take 5; price 10;", 5);
        pay("price 10; extra 0 add 1/2; extra 29 add 1/2;", 11);
        pay("price 10; extra 0 take 30; extra 29 add 25;", 5);
    }

    private static void asks() {
        String[] so = {"1<2", "2>1", "1<=1", "1>=1", "2<=3", "3>=2", "1=1", "1#2", "2/4=1/2", "not 2<1", "not not 1<2",
            "1<2 and 2<3", "2<1 or 1<2", "1<2 or 2<1 and 2<1", "2<1 and 2<1 or 1<2", "not 2<1 and 1<2", "picks=60",
            "width=30", "yarn=10", "hard=4", "not 1/0=1/0", "not 1/0#1", "not 1/0<1", "1/0=1 or 1<2", "not 1/0=1 and 1<2",
            "-1<0", "not 1<1", "not 1>1", "not 1#1", "not 1=2", "not 1/3=3333/9999 or 1=1"};
        for (String s : so) {
            pay("price 1; when " + s + " add 1;", 2);
        }
        String[] not = {"2<1", "1<1", "1>1", "1>2", "2<=1", "1>=2", "1=2", "1#1", "not 1<2", "1<2 and 2<1", "2<1 and 1<2",
            "2<1 or 2<1", "2<1 or 1<2 and 2<1", "1/0=1/0", "1/0#1", "1/0<1", "1/0>1", "1/0<=1", "1/0>=1", "1#1/0",
            "1/0=1 and 1<2", "not not 1/0=1", "not 1<2 and 1<2", "not 1<2 or 2<1"};
        for (String s : not) {
            pay("price 1; when " + s + " add 1;", 1);
        }
        pay("price 9; when 1<2 take 4; when 1<2 take 2; when 2<1 take 1;", 3);
    }

    private static void lost() {
        String[] lost = {"1/0", "0/0", "1/(2-2)", "0*(1/0)", "1/0-1/0", "-(1/0)", "min(1/0,1)", "max(1,1/0)", "1/(1/0)",
            "(1/0)/0", "1/(1/0)*0", "5000*5000*41", "9999*9999*9999", "1/5000/5000/41", "5000*5000*40+1", "0-5000*5000*40-1",
            "1/5000/5000/40/3", "9999*9999*9999/9999/9999"};
        for (String s : lost) {
            pay("price 7; price " + s + "; least 5;", 0);
            pay("price 7; extra 0 add " + s + "; least 5;", 0);
            pay("price 7; extra 1 add " + s + "; least 5;", 7);
            pay("price 7; when 1<2 take " + s + ";", 0);
            pay("price 7; when 2<1 take " + s + ";", 7);
        }
        // Just 1000000000 above or below the line is no loss.
        pay("price 5000*5000*40/5000/5000;", 40);
        pay("price 0-5000*5000*40+5000*5000*40+3;", 3);
        pay("price 1/5000/5000/40*5000*5000*40;", 1);
        pay("price 1/5000/5000/40*9;", 0);
        pay("price 5000*5000*40/(1/1);", 100000);
        pay("price 5000*5000*40; price 1; price 0-1; least 5;", 0);
        pay("extra 0 take 1; price 5000*5000*40;", 100000);
        pay("price 5000*5000*40; extra 0 add 1; extra 29 take 1;", 0);
        pay("price 9999/5000*5000*5000*4/9999;", 20000);
    }

    private static void reasons() {
        MillTown t = new MillTown();
        t.mill(1, 50, 0, 0);
        t.kind(0, 60, 30, 10, 4, 1);
        DUE.is(17, "why without a force", t.why(0, 0, 0, 0, NONE), NONE);
        DUE.is(17, "why without a force", t.why(0, 0, 0, 0, 0), NONE);
        int f = Due.enforce(t, "least 3; price 1; extra 1 add 1; extra 0 add 1; when 1<2 add 1; when 1>2 add 1; price 2;");
        int g = Due.enforce(t, "least 4; meals 1;");
        DUE.is(17, "forces", g - f, 1);
        DUE.is(17, "which force", t.why(0, 0, 0, 0, NONE), f);
        // As they stand in the TEXT, although the price SUMS are worked first.
        int[] due = {1, 3, 4, 6, NONE};
        for (int i = 0; i < due.length; i++) {
            DUE.is(17, "why " + i, t.why(0, 0, 0, 0, i), due[i]);
        }
        DUE.is(17, "why -2", t.why(0, 0, 0, 0, -2), NONE);
        int[][] others = {{-1, 0, 0, 0}, {6, 0, 0, 0}, {0, -1, 0, 0}, {0, 1, 0, 0}, {0, 0, -1, 0}, {0, 0, 400, 0},
            {0, 0, 0, -1}, {0, 0, 0, 400}};
        for (int[] o : others) {
            DUE.is(17, "why" + java.util.Arrays.toString(o), t.why(o[0], o[1], o[2], o[3], NONE), NONE);
            DUE.is(16, "pay" + java.util.Arrays.toString(o), t.pay(o[0], o[1], o[2], o[3]), NONE);
        }
        DUE.is(16, "pay(5, 0, 399, 399)", t.pay(5, 0, 399, 399), 4);
        int lost = Due.enforce(t, "price 1; extra 0 add 1/0;");
        DUE.is(17, "by which force it is lost", t.why(0, 0, 0, 0, NONE), lost);
        DUE.is(17, "why of what is lost", t.why(0, 0, 0, 0, 0), NONE);
        DUE.is(17, "why of a kind without that extra", t.why(1, 0, 0, 0, 0), 0);
        reasonsOf("extra 0 add 1; price 5;", 0, 1);
        reasonsOf("when 1<2 add 1; when 2<1 add 1; price 5; extra 0 take 1; least 2;", 0, 2, 3);
        reasonsOf("extra 1 add 1/0; meals 1; when 1/0=1 add 1; price 5;", 3);
        reasonsOf("when 1<2 take 1/0; price 5;");
        reasonsOf("price 1;".repeat(23) + "extra 0 add 1;", 0, 1, 2, 3, 4, 5, 6, 7, 8, 9, 10, 11, 12, 13, 14, 15, 16, 17, 18,
                19, 20, 21, 22, 23);
    }

    /** The CLAUSES of a TEXT that count for a KIND with the EXTRA 0 alone, and none behind or ahead of them. */
    private static void reasonsOf(String text, int... due) {
        MillTown t = new MillTown();
        t.mill(1, 50, 0, 0);
        t.kind(0, 60, 30, 10, 4, 1);
        Due.enforce(t, text);
        for (int i = 0; i < due.length; i++) {
            DUE.is(17, "why " + i + " by " + text, t.why(0, 0, 0, 0, i), due[i]);
        }
        int[] beside = {due.length, 24, 31, 32, Integer.MAX_VALUE, -2, Integer.MIN_VALUE};
        for (int i : beside) {
            DUE.is(17, "why " + i + " by " + text, t.why(0, 0, 0, 0, i), i < due.length && i >= 0 ? due[i] : NONE);
        }
    }

    private static void hours() {
        MillTown t = new MillTown();
        t.mill(1, 50, 0, 0);
        t.mill(1, 50, 0, 0);
        DUE.is(18, "hours without a text", t.hours(0, 0, 0, 0), 60);
        Due.enforce(t, "age 10 to 12 hours 30; age 12 to 20 hours 50; age 0 to 9 hours 5; meals 3; meals 6; meals 2;");
        int[][] due = {{9, 0}, {10, 24}, {12, 24}, {13, 44}, {20, 44}, {21, 0}, {99, 0}, {0, 0}};
        for (int[] d : due) {
            DUE.is(18, "hours of " + d[0], t.hours(d[0], 0, 0, 0), d[1]);
        }
        int clean = Due.read(t, "clean 4; clean 20; clean 7;");
        t.force(clean, 1, 2, 3);
        DUE.is(18, "less clean", t.hours(13, 1, 2, 0), 24);
        DUE.is(18, "not at another mill", t.hours(13, 0, 2, 0), 44);
        DUE.is(18, "not in another week", t.hours(13, 1, 4, 0), 44);
        DUE.is(18, "0 at least", t.hours(0, 1, 2, 0), 0);
        Due.enforce(t, "age 30 to 30 hours 80;");
        DUE.is(18, "the latest text for ages, an earlier one for meals", t.hours(30, 0, 0, 0), 74);
        DUE.is(18, "no age of the earlier text", t.hours(13, 0, 0, 0), 0);
        Due.enforce(t, "meals 1; price 1;");
        DUE.is(18, "the latest text for meals", t.hours(30, 0, 0, 0), 79);
        int[][] others = {{-1, 0, 0, 0}, {100, 0, 0, 0}, {30, -1, 0, 0}, {30, 2, 0, 0}, {30, 0, -1, 0}, {30, 0, 400, 0},
            {30, 0, 0, -1}, {30, 0, 0, 400}};
        for (int[] o : others) {
            DUE.is(18, "hours" + java.util.Arrays.toString(o), t.hours(o[0], o[1], o[2], o[3]), NONE);
        }
        t.weeks(1);
        Due.enforce(t, "meals 11;");
        DUE.is(18, "as known then", t.hours(30, 0, 1, 0), 79);
        DUE.is(18, "as known now", t.hours(30, 0, 1, 1), 69);
    }

    public static void main(String[] args) {
        tape();
        texts();
        textsInPlaceOfOthers();
        places();
        depths();
        fullTapes();
        forces();
        sums();
        asks();
        lost();
        reasons();
        hours();
        DUE.close();
    }
}
