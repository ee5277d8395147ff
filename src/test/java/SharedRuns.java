import java.util.Random;

/** Promise 36 on crowded towns, where plans differ much, against the model that tries every plan. */
public final class SharedRuns {
    private static final int TOWNS = 120;
    private static final String TEXT = "price 12;age 0 to 12 hours 31;age 13 to 99 hours 57;";
    private static int asked;
    private static int wrong;
    private static int spread;

    /** Told alike to both; the seed is fixed, so it is the same each time. */
    private static void fill(Random chance, MillTown town, TownModel model) {
        int mills = 2 + chance.nextInt(6);
        int homes = 2 + chance.nextInt(23);
        town.shop(0, 0, 0);
        model.shop(0, 0, 0);
        for (int m = 0; m < mills; m++) {
            int speed = 50 + chance.nextInt(151);
            town.mill(60, speed, 100000, -1000);
            model.mill(60, speed, 100000, -1000);
        }
        for (int h = 0; h < homes; h++) {
            town.home(0, 0);
            model.home(0, 0);
        }
        int weaver = 0;
        for (int p = 0; p < 60; p++) {
            int home = chance.nextInt(homes);
            int age = 8 + chance.nextInt(30);
            int skill = 1 + chance.nextInt(10);
            int sort = 1 + chance.nextInt(4);
            int where = sort == 2 ? weaver : chance.nextInt(mills);
            int n = sort == 2 ? 1 + chance.nextInt(2) : 1 + chance.nextInt(4);
            town.person(home, age, skill);
            model.person(home, age, skill);
            boolean works = town.work(p, sort, where, n);
            model.work(p, sort, where, n);
            weaver = works && sort == 1 ? p : weaver;
        }
        Due.enforce(town, TEXT);
        feed(model, TEXT);
        model.force(model.text(), MillTown.NONE, 0, 399);
        for (int k = 0; k < 6; k++) {
            int price = 80 + chance.nextInt(40);
            town.order(k, 30, price, 0, 0);
            model.order(k, 30, price, 0, 0);
        }
        town.weeks(1);
        model.weeks(1);
        int loaf = 5 + chance.nextInt(60);
        town.price(1, 1, loaf);
        model.price(1, 1, loaf);
    }

    private static void feed(TownModel model, String text) {
        for (int at = 0; at < text.length(); at += 20) {
            int[] fours = new int[5];
            for (int i = 0; i < 20; i++) {
                fours[i / 4] = fours[i / 4] << 8 | (at + i < text.length() ? text.charAt(at + i) : 0);
            }
            model.feed(fours[0], fours[1], fours[2], fours[3], fours[4]);
        }
        model.end(text.length());
    }

    private static void ask(int run, MillTown town, TownModel model, int most) {
        for (int what = -2; what < 8; what++) {
            int got = town.shared(most, what);
            int due = model.shared(most, what);
            asked++;
            if (what >= 0 && due != MillTown.NONE && due != 2) {
                spread++;
            }
            if (got != due) {
                wrong++;
                System.out.println("town " + run + ": shared(" + most + ", " + what + ") answered " + got + ", due is " + due);
            }
        }
    }

    public static void main(String[] args) {
        Random chance = new Random(36);
        for (int run = 0; run < TOWNS; run++) {
            MillTown town = new MillTown();
            TownModel model = new TownModel();
            fill(chance, town, model);
            int all = town.shared(100000, -2);
            for (int part = 0; part <= 6; part++) {
                ask(run, town, model, all * part / 6 + chance.nextInt(3));
            }
        }
        System.out.println("SharedRuns: " + asked + " answers, " + spread + " of mills that run less than full, " + wrong + " wrong");
        if (wrong != 0 || spread < 500) {
            System.exit(1);
        }
    }
}
