/** The edges of promises 1 to 16 that lie in what is held, or between calls: just inside, just beyond, full. */
public final class QuayEdgesTest {
    private static final Due due = new Due("QuayEdgesTest");
    private static final int MIN = Integer.MIN_VALUE;
    private static final int MAX = Integer.MAX_VALUE;

    public static void main(String[] args) {
        newObjects();
        boatsBehindAnImage();
        landsHeld();
        haulsBelowNothing();
        drifters();
        luggers();
        kmsOfEach();
        purseFull();
        coinsHeld();
        tapeFull();
        longestText();
        zeroAndOne();
        wrapping();
        shortOrNot();
        purseLeast();
        owedFull();
        trustEdges();
        looseToTheLastDay();
        lastDayCounts();
        due.end();
    }

    private static void newObjects() {
        due.promise(1);
        PromisedFish used = Due.fleet(5, 6);
        used.rises(9);
        used.price(0, 9);
        used.sell(0, 9);
        used.tally();
        Due.text(used, 0, "99");
        used.feed(0, 5);
        used.tell(7);
        used.seed(7);
        used.sheet(0, 8, 3);
        used.voice(0, 2, 2);
        used.image();
        used.count(10);
        PromisedFish x = new PromisedFish();
        int[] first = {0, 0, 0, 0, 0, 20, 0, 0, 0, 1};
        for (int what = 0; what < 10; what++) {
            due.is("count(" + what + ") of another object", x.count(what), first[what]);
        }
        due.is("told(1) of another object", x.told(1), 0);
        due.is("restore of another object", x.restore(), Due.NONE);
        due.is("put of another object", x.put(0, 0, 0), Due.NONE);
        due.is("untell of another object", x.untell(0), 0);
        due.is("price of another object", x.price(0, 2), 2);
    }

    private static void boatsBehindAnImage() {
        due.promise(2);
        PromisedFish x = Due.fleet(1, 2, 3, 4, 5);
        x.image();
        due.is("the sixth", x.boat(66), 5);
        due.is("lose(5, 1)", x.lose(5, 1), 0);
        due.is("a seventh", x.boat(0), Due.FULL);
        x.restore();
        due.is("count(0)", x.count(0), 5);
        due.is("boatIs(5, 0)", x.boatIs(5, 0), Due.BEYOND);
        due.is("the sixth again", x.boat(30), 5);
        due.is("its KIND", x.boatIs(5, 0), 3);
        due.is("its m", x.boatIs(5, 1), 0);
        due.is("it is not LOST", x.boatIs(5, 2), 0);
        due.is("a seventh again", x.boat(0), Due.FULL);
    }

    private static void landsHeld() {
        due.promise(3);
        String[] texts = {"0-1", "0", "1", "98", "99", "100", "9999*9999"};
        int[] held = {0, 0, 1, 98, 99, 99, 99};
        for (int i = 0; i < texts.length; i++) {
            PromisedFish x = Due.fleet(0);
            Due.text(x, 0, texts[i]);
            due.is("LANDS by " + texts[i], x.boatIs(0, 7), held[i]);
            x.lose(0, 1);
            due.is("LANDS by " + texts[i] + ", LOST", x.boatIs(0, 7), 0);
        }
    }

    /** WAVES 9 (or as told): the HAUL of FISH 0 and 3, seen by a TEXT that adds 50, and what is landed without it. */
    private static void haulsBelowNothing() {
        due.promise(3);
        int[][] rows = {
            // km, WAVES, HAUL of FISH 0, of FISH 3
            {0, 9, -4, -4}, {3, 9, -1, -1}, {4, 9, 0, 0}, {5, 9, 1, 1}, {10, 9, 1, 1}, {20, 9, -2, -2}, {21, 9, -1, -1}, {22, 9, -1, -1},
            {23, 9, 0, 0}, {25, 9, 0, 0}, {26, 9, 1, 1}, {30, 9, -8, -2}, {31, 9, -1, -1}, {33, 9, 0, -2}, {40, 9, 1, 1},
            {50, 5, 0, 3}, {50, 6, 0, 3}, {50, 7, 0, 0}, {59, 6, 4, 7}, {59, 7, 0, 0}, {59, 9, 0, 0},
            {60, 9, 2, -1}, {62, 9, 0, -3}, {69, 9, -7, -10}, {69, 5, 1, -2}, {69, 0, 11, 8},
        };
        for (int[] row : rows) {
            PromisedFish x = Due.fleet(row[0]);
            x.rises(row[1]);
            String of = " of km " + row[0] + " by WAVES " + row[1];
            due.is("LANDS of FISH 0" + of, x.boatIs(0, 4), Math.max(0, row[2]));
            due.is("LANDS of FISH 3" + of, x.boatIs(0, 7), Math.max(0, row[3]));
            Due.text(x, 0, "50+c");
            due.is("HAUL of FISH 0" + of, x.boatIs(0, 4) - 50, row[2]);
            due.is("HAUL of FISH 3" + of, x.boatIs(0, 7) - 50, row[3]);
        }
    }

    private static void drifters() {
        due.promise(3);
        int[] rests = {0, 1, 2, 3, 0, 1, 2, 3, 0, 1};
        for (int m = 0; m < 10; m++) {
            PromisedFish x = Due.fleet(30 + m);
            for (int fish = 0; fish < 4; fish++) {
                int want = fish == rests[m] ? 2 * (5 + m) : (5 + m) / 2;
                due.is("a DRIFTER with " + m + " LANDS of FISH " + fish, x.boatIs(0, 4 + fish), want);
            }
        }
    }

    private static void luggers() {
        due.promise(3);
        PromisedFish x = Due.fleet(40, 30);
        int[] lands = {10, 11, 12, 13, 14, 10, 11};
        for (int day = 0; day < lands.length; day++) {
            due.is("a LUGGER LANDS on DAY " + day, x.boatIs(0, 4), lands[day]);
            due.is("a DRIFTER EATS on DAY " + day, x.boatIs(1, 3), day % 2 == 0 ? 1 : 2);
            x.tally();
        }
    }

    private static void kmsOfEach() {
        due.promise(4);
        PromisedFish x = Due.fleet(0);
        int was = 0;
        for (int km = 0; km < 70; km++) {
            due.is("become(0, " + km + ")", x.become(0, km), was);
            due.is("KIND of " + km, x.boatIs(0, 0), km / 10);
            due.is("m of " + km, x.boatIs(0, 1), km % 10);
            due.is("as a BOAT, " + km, x.as(0, 0), km % 10);
            was = km / 10;
        }
    }

    /** PURSE of 99990: ten times 99 at 99, and twenty more. */
    private static PromisedFish rich() {
        PromisedFish x = Due.fleet(0);
        Due.text(x, 1, "99");
        for (int fish = 0; fish < 4; fish++) {
            x.price(fish, 0);
        }
        for (int i = 0; i < 10; i++) {
            x.sell(i % 4, 99);
            if (i % 4 == 3) {
                x.lose(0, 1);
                x.tally();
            }
        }
        x.lose(0, 0);
        x.sell(2, 20);
        return x;
    }

    private static void purseFull() {
        due.promise(9);
        int[][] rows = {{8, 99998, 8}, {9, 99999, 9}, {10, 99999, 10}, {99, 99999, 99}};
        for (int[] row : rows) {
            PromisedFish x = rich();
            due.is("PURSE", x.count(3), 99990);
            Due.text(x, 1, String.valueOf(row[0]));
            due.is("sell(3, 1) at " + row[0], x.sell(3, 1), row[2]);
            due.is("PURSE", x.count(3), row[1]);
            due.is("sell(3, 0)", x.sell(3, 0), 0);
            due.is("PURSE", x.count(3), row[1]);
            x.tally();
            due.is("PURSE goes down from what is held", x.count(3), row[1] - 1);
        }
        due.promise(15);
        PromisedFish x = rich();
        Due.text(x, 1, "99");
        for (int i = 0; i < 8; i++) {
            x.loose(30);
        }
        due.is("PURSE BY DRAWS is held: 1 less is EATEN in the evening", x.count(3), 99998);
    }

    private static void coinsHeld() {
        due.promise(9);
        String[] texts = {"0-1", "0", "1", "98", "99", "100", "p-3", "t-21", "n-1"};
        int[] coins = {0, 0, 1, 98, 99, 99, 0, 0, 0};
        for (int i = 0; i < texts.length; i++) {
            PromisedFish x = new PromisedFish();
            Due.text(x, 1, texts[i]);
            due.is("sell(0, 1), COINS being " + texts[i], x.sell(0, 1), coins[i]);
            due.is("PURSE", x.count(3), coins[i]);
        }
        PromisedFish x = new PromisedFish();
        due.is("sell(0, 99)", x.sell(0, 99), 198);
        due.is("sell(1, 99)", x.sell(1, 99), 198);
        due.is("99 are SOLD: sell(0, 0)", x.sell(0, 0), 0);
        due.is("99 are SOLD: sell(0, 1)", x.sell(0, 1), Due.STATE);
        due.is("99 are SOLD: sell(0, 99)", x.sell(0, 99), Due.STATE);
        due.is("of another FISH: sell(2, 1)", x.sell(2, 1), 2);
        x.tally();
        due.is("nothing is SOLD any more: sell(0, 99)", x.sell(0, 99), 198);
    }

    private static void tapeFull() {
        due.promise(10);
        for (int n = 1; n <= 8; n++) {
            PromisedFish x = new PromisedFish();
            int fed = 0;
            while (fed + n <= 60) {
                fed += n;
                due.is("feed(.., " + n + ")", x.feed(0x3131313131313131L, n), fed);
            }
            due.is("feed(.., " + n + "), " + fed + " there", x.feed(0x3131313131313131L, n), Due.FULL);
            for (; fed < 60; fed++) {
                due.is("feed(.., 1)", x.feed('1', 1), fed + 1);
            }
            due.is("feed(.., 1), 60 there", x.feed('1', 1), Due.FULL);
            due.is("count(6)", x.count(6), 60);
            due.is("text(0) of 60 digits", x.text(0), -14);
        }
        PromisedFish x = new PromisedFish();
        x.feed(MIN, 4);
        x.feed('1', 1);
        due.is("the highest byte is one of 0 to 255", x.text(0), -10);
        x.feed(0x8000000000000031L, 8);
        due.is("eight bytes, the second being 0", x.text(0), -11);
        x.feed(0x2b312b312b312b31L, 8);
        x.feed(0xff00000000000031L, 1);
        due.is("eight bytes and one", x.text(0), 1);
        due.is("1+1+1+1+1", x.law(0, 0, 0, 0), 5);
    }

    private static void longestText() {
        due.promise(11);
        PromisedFish x = new PromisedFish();
        due.is("60 signs", Due.text(x, 0, "!c" + Due.times("+s", 29)), 1);
        due.is("they give", x.law(0, 0, 2, 0), 59);
        due.is("they give", x.law(0, 5, 3, 0), 87);
        due.is("59 signs", Due.text(x, 0, "c" + Due.times("+n", 29)), 1);
        due.is("they give", x.law(0, 5, 0, 2), 63);
        due.is("12 numbers of four digits", Due.text(x, 0, "1000" + Due.times("-0001", 11)), 1);
        due.is("60 bytes, a number at the end", Due.text(x, 0, Due.times("0000+", 11) + "00042"), -69);
        due.is("59 bytes, a number at the end", Due.text(x, 0, Due.times("0000+", 11) + "0042"), 1);
        due.is("they give", x.law(0, 0, 0, 0), 42);
        due.is("60 bytes, that end too early", Due.text(x, 0, Due.times("c+", 30)), -70);
        due.is("the one ahead stays", x.law(0, 0, 0, 0), 42);
        due.is("one byte", Due.text(x, 0, "n"), 1);
        due.is("one byte", Due.text(x, 0, "("), -11);
        due.is("one byte", Due.text(x, 0, ")"), -10);
        due.is("no byte", x.text(0), -10);
        due.is("no byte", x.text(1), -10);
        due.is("law", x.law(0, 1, 2, 3), 3);
        String deep = "(((((c|s)&n)<s)+c)*n)";
        due.is("five open", Due.text(x, 0, deep), 1);
        due.is("it gives", x.law(0, 7, 2, 3), 24);
        due.is("five open, six closed", Due.text(x, 0, deep + ")"), -10 - deep.length());
        due.is("five open, five behind", Due.text(x, 0, deep + "-(((((1)))))"), 1);
        due.is("it gives", x.law(0, 7, 2, 3), 23);
        due.is("five open, six behind", Due.text(x, 0, deep + "-((((((1))))))"), -10 - deep.length() - 6);
        due.promise(12);
        due.is("untell(0)", x.untell(0), 1);
        due.is("a FAULT is no TEXT", Due.text(x, 0, "c+"), -12);
        due.is("untell(0)", x.untell(0), 0);
    }

    private static void value(String text, int a, int b, int want) {
        PromisedFish x = new PromisedFish();
        due.is("text of " + text, Due.text(x, 0, text), 1);
        due.is(text + " of " + a + ", " + b, x.law(0, a, b, 0), want);
    }

    /** What is not true, and what nothing is divided by, is 0 and no less. */
    private static void zeroAndOne() {
        due.promise(13);
        value("5+(c|s)", 0, 0, 5);
        value("5+(c|s)", MIN, 0, 6);
        value("5+(c|s)", 0, 9, 6);
        value("5+(c|s)", 8, 9, 6);
        value("5+(c&s)", 0, 0, 5);
        value("5+(c&s)", 0, 9, 5);
        value("5+(c&s)", -1, 1, 6);
        value("5+(c<s)", 4, 4, 5);
        value("5+(c<s)", 5, 4, 5);
        value("5+(c<s)", MIN, MAX, 6);
        value("5+(c=s)", 4, 5, 5);
        value("5+(c=s)", MIN, MIN, 6);
        value("5+(c>s)", 4, 4, 5);
        value("5+(c>s)", 4, 5, 5);
        value("5+(c>s)", MAX, MIN, 6);
        value("5+!c", 3, 0, 5);
        value("5+!c", 0, 0, 6);
        value("5+!!c", MIN, 0, 6);
        value("5+c/s", 9, 0, 5);
        value("5+c/s", MIN, 0, 5);
        value("5+c%s", 9, 0, 5);
        value("5+c%s", MIN, 0, 5);
        value("5+0/0", 0, 0, 5);
        value("5+0%0", 0, 0, 5);
        value("0|c/0", 7, 0, 0);
        value("1|c/0", 7, 0, 1);
    }

    private static void wrapping() {
        due.promise(13);
        value("c+1=s", MAX, MIN, 1);
        value("c-1=s", MIN, MAX, 1);
        value("0-c=c", MIN, 0, 1);
        value("c*c=1", MAX, 0, 1);
        value("c*2=0", MIN, 0, 1);
        value("c/s=c", MIN, -1, 1);
        value("c%s=0", MIN, -1, 1);
        value("5+c%s", MIN, MAX, 4);
        value("5+c/s", MIN, MAX, 4);
        value("5+c/2", -9, 0, 1);
        value("5+c%2", -9, 0, 4);
        value("5+c/(0-2)", 9, 0, 1);
        value("5+c%(0-2)", 9, 0, 6);
        value("9999*9999*9999*9999<0", 0, 0, 9999 * 9999 * 9999 * 9999 < 0 ? 1 : 0);
        due.is("a number that wraps is held", law("c+c", MAX), 0);
        due.is("a number that wraps is held", law("c-1", MIN), 99);
    }

    private static int law(String text, int c) {
        PromisedFish x = new PromisedFish();
        Due.text(x, 0, text);
        return x.law(0, c, 0, 0);
    }

    private static void shortOrNot() {
        due.promise(14);
        for (int sold = 9; sold <= 12; sold++) {
            PromisedFish x = Due.fleet(5);
            x.price(0, 3);
            x.sell(0, sold);
            int missing = Math.max(0, sold - 10);
            due.is("tally, " + sold + " SOLD of 10", x.tally(), missing);
            due.is("PURSE", x.count(3), 3 * sold - 6 * missing - 1);
            due.is("OWED", x.count(4), missing);
            due.is("TRUST", x.count(5), missing == 0 ? 21 : 18);
            due.is("DAY", x.count(2), 1);
            due.is("WAVES", x.count(1), 0);
            due.is("z", x.count(9), 1);
        }
        PromisedFish x = Due.fleet(5);
        x.sell(0, 10);
        x.sell(1, 10);
        x.sell(2, 10);
        x.sell(3, 11);
        due.is("tally, the last FISH alone", x.tally(), 1);
        due.is("tally of nothing", new PromisedFish().tally(), 0);
    }

    /** PURSE so much above -99999: fourteen DAYS of 396 SHORT at 9, one at 1, and a BOAT that EATS 1 if need be. */
    private static PromisedFish poor(int left) {
        PromisedFish x = new PromisedFish();
        Due.text(x, 1, "0");
        for (int fish = 0; fish < 4; fish++) {
            x.price(fish, 9);
        }
        for (int day = 0; day < 14; day++) {
            for (int fish = 0; fish < 4; fish++) {
                x.sell(fish, 99);
            }
            x.tally();
        }
        for (int fish = 0; fish < 4; fish++) {
            x.price(fish, 1);
        }
        int less = 99999 - 14 * 7128 - left;
        x.sell(0, less / 4);
        x.sell(1, less / 2 - less / 4);
        if (less % 2 == 1) {
            x.boat(0);
            Due.text(x, 0, "0");
        }
        x.tally();
        return x;
    }

    private static void purseLeast() {
        due.promise(14);
        for (int left = 0; left < 8; left++) {
            due.is("PURSE, " + left + " above the least", poor(left).count(3), left - 99999);
            for (int sold = 0; sold < 4; sold++) {
                PromisedFish x = poor(left);
                x.sell(2, sold);
                due.is("tally", x.tally(), sold);
                int eaten = x.count(0);
                int want = Math.max(-99999, Math.max(-99999, left - 99999 - 2 * sold) - eaten);
                due.is("PURSE, " + sold + " more SHORT", x.count(3), want);
            }
            PromisedFish x = poor(left);
            x.boat(60);
            x.tally();
            due.is("PURSE, as they EAT", x.count(3), Math.max(-99999, left - 99999 - 4 - (x.count(0) - 1)));
        }
    }

    /** OWED is brought up by DRAWS, then to just below 99999 by sales. */
    private static void owedFull() {
        due.promise(14);
        for (int behind = 0; behind < 3; behind++) {
            PromisedFish x = new PromisedFish();
            while (x.count(4) < 99000 && x.count(2) < 9900) {
                x.loose(30);
            }
            for (int owed = x.count(4); owed < 99998; owed = x.count(4)) {
                int left = 99998 - owed;
                x.sell(0, Math.min(99, left));
                x.sell(1, Math.min(99, Math.max(0, left - 99)));
                x.tally();
            }
            due.is("OWED", x.count(4), 99998);
            x.sell(3, behind);
            due.is("tally", x.tally(), behind);
            due.is("OWED, " + behind + " more", x.count(4), Math.min(99999, 99998 + behind));
            x.sell(3, 99);
            due.is("tally tells all, though not all of it is held", x.tally(), 99);
            due.is("OWED is full", x.count(4), 99999);
            x.tally();
            due.is("OWED stays full", x.count(4), 99999);
            x.loose(30);
            due.is("OWED stays full BY DRAWS", x.count(4), 99999);
        }
    }

    private static void trustEdges() {
        due.promise(14);
        for (int trust = 0; trust < 4; trust++) {
            PromisedFish x = new PromisedFish();
            for (int i = 0; i < 10; i++) {
                x.sell(0, 1);
                x.tally();
            }
            due.is("TRUST", x.count(5), 0);
            for (int i = 0; i < trust; i++) {
                x.tally();
            }
            due.is("TRUST", x.count(5), trust);
            x.sell(0, 1);
            x.tally();
            due.is("TRUST " + trust + ", less", x.count(5), Math.max(0, trust - 2));
        }
        PromisedFish x = new PromisedFish();
        for (int trust = 21; trust <= 99; trust++) {
            x.tally();
            due.is("TRUST", x.count(5), trust);
        }
        x.image();
        x.tally();
        due.is("TRUST is full", x.count(5), 99);
        x.sell(0, 1);
        x.tally();
        due.is("TRUST, less", x.count(5), 97);
        x.tally();
        due.is("TRUST, more", x.count(5), 98);
        x.restore();
        Due.text(x, 1, "t");
        due.is("COINS by the TRUST that is full", x.sell(0, 1), 99);
    }

    private static void looseToTheLastDay() {
        due.promise(15);
        PromisedFish x = new PromisedFish();
        for (int i = 0; i < 332; i++) {
            x.loose(30);
        }
        due.is("DAY", x.count(2), 9960);
        x.loose(9);
        x.image();
        due.is("loose(30) from 9969", x.loose(30) >= 0 ? 1 : 0, 1);
        due.is("DAY", x.count(2), 9999);
        x.restore();
        x.tally();
        x.image();
        int z = x.count(9);
        due.is("loose(30) from 9970", x.loose(30), Due.STATE);
        due.is("DAY", x.count(2), 9970);
        due.is("z", x.count(9), z);
        due.is("loose(29) from 9970", x.loose(29) >= 0 ? 1 : 0, 1);
        due.is("DAY", x.count(2), 9999);
        due.is("tally on 9999", x.tally(), Due.STATE);
        due.is("restore", x.restore(), 9970);
        due.is("loose(28) from 9970", x.loose(28) >= 0 ? 1 : 0, 1);
        due.is("DAY", x.count(2), 9998);
        due.is("loose(1) from 9998 is a DAY more", x.loose(1) >= 0 ? 1 : 0, 1);
        due.is("DAY", x.count(2), 9999);
        due.is("loose(1) on 9999", x.loose(1), Due.STATE);
        due.is("told(3)", x.told(3), 3);
    }

    private static void lastDayCounts() {
        due.promise(3);
        PromisedFish x = new PromisedFish();
        for (int i = 0; i < 333; i++) {
            x.loose(30);
        }
        x.loose(8);
        x.boat(40);
        x.boat(30);
        x.rises(0);
        due.is("a LUGGER LANDS on DAY 9998", x.boatIs(0, 4), 13);
        due.is("a DRIFTER EATS on DAY 9998", x.boatIs(1, 3), 1);
        due.promise(14);
        due.is("tally on DAY 9998", x.tally(), 0);
        due.is("DAY", x.count(2), 9999);
        due.promise(3);
        due.is("a LUGGER LANDS on DAY 9999", x.boatIs(0, 4), 14);
        due.is("a DRIFTER EATS on DAY 9999", x.boatIs(1, 3), 2);
        due.promise(22);
        x.lose(1, 1);
        due.is("soonest on DAY 9999", x.soonest(1, 14), 0);
        due.is("soonest on DAY 9999", x.soonest(1, 15), Due.NONE);
        x.rises(1);
        Due.text(x, 0, "c*(c=12)");
        due.is("soonest beyond DAY 9999", x.soonest(1, 12), 4);
        due.is("soonest beyond DAY 9999", x.soonest(1, 0), 0);
        due.is("DAY", x.count(2), 9999);
    }
}
