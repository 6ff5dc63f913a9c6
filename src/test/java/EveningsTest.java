/** Promises 14 to 16: evenings, DAYS BY DRAWS and the seed. */
public final class EveningsTest {
    private static final Due due = new Due("EveningsTest");

    public static void main(String[] args) {
        tally();
        tallyHoldsPurse();
        tallyEats();
        trust();
        loose();
        looseSellsForCoins();
        looseThatDoesNotSell();
        lastDay();
        seed();
        due.end();
    }

    private static void counts(PromisedFish x, int day, int purse, int owed, int trust) {
        due.is("DAY", x.count(2), day);
        due.is("PURSE", x.count(3), purse);
        due.is("OWED", x.count(4), owed);
        due.is("TRUST", x.count(5), trust);
    }

    private static void tally() {
        due.promise(14);
        PromisedFish x = new PromisedFish();
        x.boat(5);
        x.boat(18);
        x.sell(0, 24);
        x.sell(1, 28);
        x.price(1, 5);
        x.sell(2, 23);
        x.sell(3, 99);
        x.price(3, 0);
        due.is("catches(0)", x.catches(0), 10 + 18);
        x.rises(2);
        due.is("catches(0)", x.catches(0), 8 + 16);
        // SHORT: 0, 4 (at 5), 0, 75 (at 0); SOLD for 48 + 56 + 46 + 198; EATEN 1 + 2
        due.is("tally", x.tally(), 79);
        counts(x, 1, 348 - 2 * 4 * 5 - 3, 79, 18);
        due.is("WAVES stay", x.count(1), 2);
        for (int fish = 0; fish < 4; fish++) {
            x.tell(0);
        }
        due.is("nothing is SOLD", x.check(), 0);
        due.is("PRICE stays", x.price(1, 2), 5);
        due.is("tally", x.tally(), 0);
        counts(x, 2, 305 - 3, 79, 19);
        x.sell(0, 25);
        due.is("tally", x.tally(), 1);
        counts(x, 3, 302 + 50 - 4 - 3, 80, 17);
        Due.text(x, 0, "n-1");
        x.sell(0, 50);
        due.is("CATCH is of what is SOLD: 49 twice", x.tally(), 0);
        x.lose(0, 1);
        x.sell(0, 50);
        x.sell(1, 0);
        x.sell(2, 2);
        due.is("CATCH is of what is SOLD: 49, 0, 1, 0", x.tally(), 2);
    }

    private static void tallyHoldsPurse() {
        due.promise(14);
        PromisedFish x = new PromisedFish();
        Due.text(x, 1, "0");
        for (int fish = 0; fish < 4; fish++) {
            x.price(fish, 9);
        }
        int days = 0;
        while (days < 15) {
            for (int fish = 0; fish < 4; fish++) {
                x.sell(fish, 99);
            }
            due.is("tally", x.tally(), 396);
            days++;
            due.is("PURSE", x.count(3), Math.max(-99999, days * -7128));
        }
        x.boat(60);
        due.is("tally", x.tally(), 0);
        due.is("PURSE is held when they EAT", x.count(3), -99999);
        x.untell(1);
        x.sell(0, 15);
        due.is("PURSE", x.count(3), -99999 + 135);
        due.is("tally", x.tally(), 0);
        due.is("PURSE", x.count(3), -99999 + 135 - 4);
    }

    private static void tallyEats() {
        due.promise(14);
        PromisedFish x = new PromisedFish();
        x.boat(0);
        x.boat(10);
        x.boat(30);
        x.boat(40);
        x.boat(50);
        x.boat(60);
        x.tally();
        due.is("PURSE", x.count(3), -(1 + 2 + 1 + 4 + 0 + 4));
        x.tally();
        due.is("PURSE, DAY being 1", x.count(3), -12 - (1 + 2 + 2 + 4 + 0 + 4));
        x.lose(3, 1);
        x.lose(0, 1);
        x.become(5, 20);
        x.tally();
        due.is("PURSE, two LOST", x.count(3), -25 - (2 + 1 + 0 + 1));
    }

    private static void trust() {
        due.promise(14);
        PromisedFish x = new PromisedFish();
        for (int i = 0; i < 12; i++) {
            x.sell(0, 1);
            due.is("tally", x.tally(), 1);
            due.is("TRUST", x.count(5), Math.max(0, 18 - 2 * i));
        }
        x.tally();
        due.is("TRUST", x.count(5), 1);
        x.sell(3, 2);
        x.tally();
        due.is("TRUST is held at 0", x.count(5), 0);
        for (int i = 1; i <= 102; i++) {
            due.is("tally", x.tally(), 0);
            due.is("TRUST", x.count(5), Math.min(99, i));
        }
        x.sell(0, 9);
        x.tally();
        due.is("TRUST", x.count(5), 97);
    }

    private static int draw(int[] z) {
        z[0] = z[0] * 1103515245 + 12345;
        return z[0] >>> 8;
    }

    /** No BOATS: all that is SOLD is SHORT, and costs PURSE its price once. */
    private static void loose() {
        due.promise(15);
        PromisedFish x = new PromisedFish();
        due.is("loose(0)", x.loose(0), Due.BEYOND);
        due.is("loose(31)", x.loose(31), Due.BEYOND);
        due.is("loose(-1)", x.loose(-1), Due.BEYOND);
        due.is("count(9)", x.count(9), 1);
        int[] z = {-77};
        x.seed(-77);
        int purse = 0;
        int owed = 0;
        int day = 0;
        for (int n = 1; n <= 30; n++) {
            int all = 0;
            int waves = 0;
            for (int i = 0; i < n; i++) {
                draw(z);
                int many = draw(z) % 30;
                waves = draw(z) % 10;
                all += many;
                day++;
            }
            due.is("loose(" + n + ")", x.loose(n), all);
            owed += all;
            purse -= 2 * all;
            due.is("WAVES", x.count(1), waves);
            due.is("z", x.count(9), z[0]);
            due.is("PURSE", x.count(3), purse);
            due.is("OWED", x.count(4), owed);
            due.is("DAY", x.count(2), day);
        }
    }

    private static void looseSellsForCoins() {
        due.promise(15);
        PromisedFish x = new PromisedFish();
        int[] prices = {3, 0, 7, 9};
        for (int fish = 0; fish < 4; fish++) {
            x.price(fish, prices[fish]);
        }
        Due.text(x, 0, "30*(s<5)");
        Due.text(x, 1, "p+t");
        x.boat(0);
        int[] z = {1};
        int purse = 0;
        int trust = 20;
        for (int day = 0; day < 60; day++) {
            int fish = draw(z) % 4;
            int many = draw(z) % 30;
            int waves = draw(z) % 10;
            purse += many * (prices[fish] + trust);
            int missing = waves < 5 ? 0 : many;
            purse -= 2 * missing * prices[fish] + 1;
            trust = missing == 0 ? trust + 1 : Math.max(0, trust - 2);
            due.is("loose(1) on DAY " + day, x.loose(1), missing);
            due.is("PURSE", x.count(3), purse);
            due.is("TRUST", x.count(5), trust);
        }
    }

    /** A FISH of which too many are SOLD already: the draws are made all the same. */
    private static void looseThatDoesNotSell() {
        due.promise(15);
        for (int seed = 0; seed < 40; seed++) {
            int[] z = {seed};
            int fish = draw(z) % 4;
            int many = draw(z) % 30;
            int waves = draw(z) % 10;
            for (int ahead : new int[] {70, 99 - many, 100 - many, 99}) {
                if (ahead > 99) {
                    continue;
                }
                PromisedFish x = new PromisedFish();
                x.sell(fish, ahead);
                x.seed(seed);
                int sold = ahead + many > 99 ? ahead : ahead + many;
                due.is("loose(1), " + ahead + " being SOLD and " + many + " drawn", x.loose(1), sold);
                due.is("PURSE", x.count(3), -2 * sold);
                due.is("WAVES", x.count(1), waves);
                due.is("z", x.count(9), z[0]);
            }
        }
    }

    private static void lastDay() {
        due.promise(15);
        PromisedFish x = new PromisedFish();
        for (int fish = 0; fish < 4; fish++) {
            x.price(fish, 9);
        }
        int owed = 0;
        for (int i = 0; i < 333; i++) {
            owed += x.loose(30);
        }
        due.is("DAY", x.count(2), 9990);
        due.is("OWED is held (of " + owed + ")", x.count(4), 99999);
        due.is("PURSE is held", x.count(3), -99999);
        due.is("TRUST", x.count(5) < 3 ? 1 : 0, 1);
        due.is("loose(10)", x.loose(10), Due.STATE);
        due.is("loose(31)", x.loose(31), Due.BEYOND);
        due.is("DAY", x.count(2), 9990);
        x.loose(8);
        due.is("DAY", x.count(2), 9998);
        due.is("loose(2)", x.loose(2), Due.STATE);
        x.image();
        due.is("loose(1), to the last DAY", x.loose(1) >= 0 ? 1 : 0, 1);
        due.is("DAY", x.count(2), 9999);
        x.restore();
        x.tally();
        due.is("DAY", x.count(2), 9999);
        int z = x.count(9);
        due.is("loose(1)", x.loose(1), Due.STATE);
        due.is("z", x.count(9), z);
        due.promise(14);
        due.is("tally", x.tally(), Due.STATE);
        due.is("DAY", x.count(2), 9999);
        due.is("told(3)", x.told(3), 4);
        due.promise(22);
        x.boat(40);
        x.rises(0);
        due.is("DAY 9999 leaves 4", x.catches(0), 14);
        due.is("soonest(0, 14)", x.soonest(0, 14), 0);
        Due.text(x, 0, "c*(c<14)");
        due.is("soonest(0, 13) is beyond DAY 9999", x.soonest(0, 13), 4);
        due.is("soonest(0, 10) is beyond DAY 9999", x.soonest(0, 10), 1);
        due.is("DAY", x.count(2), 9999);
    }

    private static void seed() {
        due.promise(16);
        PromisedFish x = new PromisedFish();
        due.is("seed(-5)", x.seed(-5), 1);
        due.is("seed(max)", x.seed(Integer.MAX_VALUE), -5);
        due.is("seed(min)", x.seed(Integer.MIN_VALUE), Integer.MAX_VALUE);
        due.is("seed(0)", x.seed(0), Integer.MIN_VALUE);
        due.is("count(9)", x.count(9), 0);
        x.loose(1);
        int[] z = {0};
        draw(z);
        draw(z);
        draw(z);
        due.is("count(9)", x.count(9), z[0]);
        due.is("seed is no ERROR", x.told(1), 0);
    }
}
