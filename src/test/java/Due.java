/** What the tests share: holding answers against what is due, and feeding a text by its letters. */
final class Due {
    private final String name;
    private int asked;
    private int wrong;

    Due(String name) {
        this.name = name;
    }

    void is(int promise, String call, long got, long due) {
        asked++;
        if (got != due) {
            wrong++;
            System.out.println("promise " + promise + ": " + call + " answered " + got + ", due is " + due);
        }
    }

    void yes(int promise, String call, boolean got) {
        is(promise, call, got ? 1 : 0, 1);
    }

    void no(int promise, String call, boolean got) {
        is(promise, call, got ? 1 : 0, 0);
    }

    /** Ends the test's program: with 1 if one answer was wrong. */
    void close() {
        System.out.println(name + ": " + asked + " answers, " + wrong + " wrong");
        if (wrong != 0) {
            System.exit(1);
        }
    }

    /** Puts the signs of a text on the tape, in place of what was there. */
    static void feed(MillTown town, String text) {
        town.end(0);
        for (int at = 0; at < text.length(); at += 20) {
            int[] fours = new int[5];
            for (int i = 0; i < 20; i++) {
                fours[i / 4] = fours[i / 4] << 8 | (at + i < text.length() ? text.charAt(at + i) : 0);
            }
            town.feed(fours[0], fours[1], fours[2], fours[3], fours[4]);
        }
        town.end(text.length());
    }

    static int read(MillTown town, String text) {
        feed(town, text);
        return town.text();
    }

    /** A TEXT in FORCE at all MILLS from now to the last WEEK. */
    static int enforce(MillTown town, String text) {
        int number = read(town, text);
        return town.force(number, MillTown.NONE, town.about(0), 399);
    }

    /**
     * A MILL of 4 LOOMS with 5000 coins, a SHOP with 1000 coins, TRUST 100 and RENT 10, a HOME with 20 coins, a weaver
     * of 120000 POINTS a WEEK in it; 20 coins a PIECE of 18000.
     */
    static MillTown smallTown() {
        MillTown town = new MillTown();
        town.mill(4, 100, 5000, -1000);
        town.shop(1000, 100, 10);
        town.home(0, 20);
        town.person(0, 30, 5);
        town.work(0, 1, 0, 4);
        enforce(town, "price 20;");
        return town;
    }
}
