/** Promises 1 to 9: a new object, boats and sales. */
public final class BoatsTest {
    private static final Due due = new Due("BoatsTest");

    public static void main(String[] args) {
        newObject();
        boat();
        boatIs();
        hauls();
        eats();
        become();
        as();
        lose();
        rises();
        price();
        sell();
        sellHeld();
        due.end();
    }

    private static void newObject() {
        due.promise(1);
        PromisedFish x = new PromisedFish();
        int[] first = {0, 0, 0, 0, 0, 20, 0, 0, 0, 1};
        for (int what = 0; what < first.length; what++) {
            due.is("count(" + what + ")", x.count(what), first[what]);
        }
        for (int fish = 0; fish < 4; fish++) {
            due.is("price", x.price(fish, 0), 2);
            due.is("catches", x.catches(fish), 0);
            x.tell(0);
        }
        due.is("check", x.check(), 0);
        for (int k = 1; k <= 6; k++) {
            due.is("told(" + k + ")", x.told(k), 0);
        }
        due.is("untell(0)", x.untell(0), 0);
        due.is("untell(1)", x.untell(1), 0);
        due.is("rises", x.rises(0), 0);
        due.is("boatIs(0, 0)", x.boatIs(0, 0), Due.BEYOND);
        due.is("restore", x.restore(), Due.NONE);
        due.is("body(0)", x.body(0), Due.NONE);
        for (int s = 0; s < 4; s++) {
            due.is("judge(" + s + ")", x.judge(s), Due.NONE);
        }
        due.is("image", x.image(), 1);
    }

    private static void boat() {
        due.promise(2);
        PromisedFish x = new PromisedFish();
        due.is("boat(-1)", x.boat(-1), Due.BEYOND);
        due.is("boat(70)", x.boat(70), Due.BEYOND);
        due.is("boat(min)", x.boat(Integer.MIN_VALUE), Due.BEYOND);
        due.is("boat(max)", x.boat(Integer.MAX_VALUE), Due.BEYOND);
        due.is("count(0)", x.count(0), 0);
        int[] kms = {0, 9, 69, 41, 28, 35};
        for (int i = 0; i < kms.length; i++) {
            due.is("boat(" + kms[i] + ")", x.boat(kms[i]), i);
            due.is("KIND", x.boatIs(i, 0), kms[i] / 10);
            due.is("m", x.boatIs(i, 1), kms[i] % 10);
            due.is("LOST", x.boatIs(i, 2), 0);
            due.is("count(0)", x.count(0), i + 1);
        }
        due.is("boat(0), six there", x.boat(0), Due.FULL);
        due.is("boat(70), six there", x.boat(70), Due.BEYOND);
        due.is("told(4)", x.told(4), 1);
        due.is("told(1)", x.told(1), 5);
        due.is("count(0)", x.count(0), 6);
    }

    private static void boatIs() {
        due.promise(3);
        PromisedFish x = new PromisedFish();
        x.boat(17);
        due.is("boatIs(-1, 0)", x.boatIs(-1, 0), Due.BEYOND);
        due.is("boatIs(1, 0)", x.boatIs(1, 0), Due.BEYOND);
        due.is("boatIs(0, -1)", x.boatIs(0, -1), Due.BEYOND);
        due.is("boatIs(0, 8)", x.boatIs(0, 8), Due.BEYOND);
        due.is("boatIs(0, 0)", x.boatIs(0, 0), 1);
        due.is("boatIs(0, 1)", x.boatIs(0, 1), 7);
        due.is("boatIs(0, 2)", x.boatIs(0, 2), 0);
        due.is("boatIs(0, 3)", x.boatIs(0, 3), 2);
        for (int fish = 0; fish < 4; fish++) {
            due.is("LANDS", x.boatIs(0, 4 + fish), 17);
        }
        x.lose(0, 1);
        due.is("LOST", x.boatIs(0, 2), 1);
        due.is("EATS of one that is LOST", x.boatIs(0, 3), 2);
        due.is("LANDS of one that is LOST", x.boatIs(0, 5), 0);
        x.lose(0, 0);
        Due.text(x, 0, "c*100+n");
        due.is("LANDS is held at 99", x.boatIs(0, 4), 99);
        Due.text(x, 0, "0-c");
        due.is("LANDS is held at 0", x.boatIs(0, 4), 0);
        Due.text(x, 0, "n+s");
        x.sell(2, 31);
        x.rises(4);
        due.is("LANDS by SOLD of that FISH", x.boatIs(0, 6), 35);
        due.is("LANDS by SOLD of another", x.boatIs(0, 7), 4);
    }

    /** What boatIs tells of each KIND, by FISH and WAVES and DAY; rows: km, waves, day, four FISH. */
    private static void hauls() {
        due.promise(3);
        int[][] rows = {
            {0, 0, 0, 5, 5, 5, 5}, {9, 3, 0, 11, 11, 11, 11}, {0, 9, 0, 0, 0, 0, 0},
            {10, 9, 0, 1, 1, 1, 1}, {19, 0, 3, 19, 19, 19, 19},
            {20, 0, 0, 2, 2, 2, 2}, {29, 0, 0, 7, 7, 7, 7}, {24, 4, 0, 2, 2, 2, 2},
            {30, 0, 0, 10, 2, 2, 2}, {35, 1, 0, 4, 18, 4, 4}, {37, 2, 0, 5, 5, 5, 20}, {36, 6, 0, 2, 2, 10, 2},
            {40, 0, 0, 10, 10, 10, 10}, {43, 2, 4, 15, 15, 15, 15}, {43, 2, 5, 11, 11, 11, 11}, {43, 2, 8, 14, 14, 14, 14},
            {50, 0, 0, 2, 3, 4, 5}, {57, 6, 0, 3, 4, 5, 6}, {57, 7, 0, 0, 0, 0, 0}, {50, 6, 0, 0, 1, 2, 3},
            {60, 0, 0, 20, 19, 18, 17}, {69, 5, 0, 1, 0, 0, 0}, {62, 3, 1, 12, 11, 10, 9}, {69, 9, 0, 0, 0, 0, 0},
        };
        for (int[] row : rows) {
            PromisedFish x = new PromisedFish();
            x.boat(row[0]);
            x.rises(row[1]);
            for (int day = 0; day < row[2]; day++) {
                x.tally();
            }
            for (int fish = 0; fish < 4; fish++) {
                String call = "LANDS of km " + row[0] + " by WAVES " + row[1] + " on DAY " + row[2] + " of FISH " + fish;
                due.is(call, x.boatIs(0, 4 + fish), row[3 + fish]);
            }
        }
        PromisedFish x = new PromisedFish();
        x.boat(0);
        x.boat(22);
        x.rises(9);
        Due.text(x, 0, "50+c");
        due.is("a HAUL below 0 comes to the TEXT as it is", x.boatIs(0, 4), 46);
        due.is("half of it is cut toward 0", x.boatIs(1, 4), 49);
    }

    private static void eats() {
        due.promise(3);
        int[] even = {1, 2, 1, 1, 4, 0, 4};
        int[] odd = {1, 2, 1, 2, 4, 0, 4};
        PromisedFish x = new PromisedFish();
        x.boat(0);
        for (int day = 0; day < 4; day++) {
            for (int kind = 0; kind < 7; kind++) {
                x.become(0, kind * 10 + 3);
                due.is("EATS of KIND " + kind + " on DAY " + day, x.boatIs(0, 3), day % 2 == 0 ? even[kind] : odd[kind]);
            }
            x.tally();
        }
    }

    private static void become() {
        due.promise(4);
        PromisedFish x = new PromisedFish();
        due.is("become(0, 0), none there", x.become(0, 0), Due.BEYOND);
        x.boat(5);
        x.boat(61);
        x.lose(1, 1);
        due.is("become(1, 48)", x.become(1, 48), 6);
        due.is("KIND", x.boatIs(1, 0), 4);
        due.is("m", x.boatIs(1, 1), 8);
        due.is("it is LOST as ahead", x.boatIs(1, 2), 1);
        due.is("become(1, 70)", x.become(1, 70), Due.BEYOND);
        due.is("become(1, -1)", x.become(1, -1), Due.BEYOND);
        due.is("become(2, 0)", x.become(2, 0), Due.BEYOND);
        due.is("become(-1, 0)", x.become(-1, 0), Due.BEYOND);
        due.is("become(1, 69)", x.become(1, 69), 4);
        due.is("become(1, 0)", x.become(1, 0), 6);
        due.is("the other is as it was", x.boatIs(0, 1), 5);
        due.is("count(0)", x.count(0), 2);
    }

    private static void as() {
        due.promise(5);
        int[][] under = {{0}, {0, 1}, {0, 2}, {0, 3}, {0, 1, 4}, {0, 2, 5}, {0, 6}};
        PromisedFish x = new PromisedFish();
        x.boat(0);
        int unlike = 0;
        for (int kind = 0; kind < 7; kind++) {
            int m = 9 - kind;
            x.become(0, kind * 10 + m);
            for (int other = 0; other < 7; other++) {
                boolean is = false;
                for (int above : under[kind]) {
                    is |= above == other;
                }
                due.is("KIND " + kind + " as(0, " + other + ")", x.as(0, other), is ? m : Due.KIND);
                unlike += is ? 0 : 1;
            }
        }
        due.is("told(5)", x.told(5), unlike);
        due.is("as(0, 7)", x.as(0, 7), Due.BEYOND);
        due.is("as(0, -1)", x.as(0, -1), Due.BEYOND);
        due.is("as(1, 0)", x.as(1, 0), Due.BEYOND);
        due.is("as(-1, 0)", x.as(-1, 0), Due.BEYOND);
        due.is("KIND stays", x.boatIs(0, 0), 6);
    }

    private static void lose() {
        due.promise(6);
        PromisedFish x = new PromisedFish();
        due.is("lose(0, 1), none there", x.lose(0, 1), Due.BEYOND);
        x.boat(5);
        x.boat(5);
        due.is("catches(0)", x.catches(0), 20);
        due.is("lose(0, 1)", x.lose(0, 1), 0);
        due.is("lose(0, 1)", x.lose(0, 1), 1);
        due.is("lose(0, 2)", x.lose(0, 2), Due.BEYOND);
        due.is("lose(0, -1)", x.lose(0, -1), Due.BEYOND);
        due.is("lose(2, 1)", x.lose(2, 1), Due.BEYOND);
        due.is("lose(-1, 1)", x.lose(-1, 1), Due.BEYOND);
        due.is("catches(0)", x.catches(0), 10);
        due.is("boatIs(1, 2)", x.boatIs(1, 2), 0);
        due.is("lose(0, 0)", x.lose(0, 0), 1);
        due.is("lose(0, 0)", x.lose(0, 0), 0);
        due.is("catches(0)", x.catches(0), 20);
    }

    private static void rises() {
        due.promise(7);
        PromisedFish x = new PromisedFish();
        due.is("rises(9)", x.rises(9), 0);
        due.is("count(1)", x.count(1), 9);
        due.is("rises(10)", x.rises(10), Due.BEYOND);
        due.is("rises(-1)", x.rises(-1), Due.BEYOND);
        due.is("rises(0)", x.rises(0), 9);
        due.is("rises(4)", x.rises(4), 0);
        due.is("count(1)", x.count(1), 4);
    }

    private static void price() {
        due.promise(8);
        PromisedFish x = new PromisedFish();
        due.is("price(3, 9)", x.price(3, 9), 2);
        due.is("price(3, 0)", x.price(3, 0), 9);
        due.is("price(3, 10)", x.price(3, 10), Due.BEYOND);
        due.is("price(3, -1)", x.price(3, -1), Due.BEYOND);
        due.is("price(4, 1)", x.price(4, 1), Due.BEYOND);
        due.is("price(-1, 1)", x.price(-1, 1), Due.BEYOND);
        due.is("price(3, 5)", x.price(3, 5), 0);
        due.is("price(2, 5)", x.price(2, 5), 2);
        due.is("sell(3, 2)", x.sell(3, 2), 10);
        due.is("sell(1, 2)", x.sell(1, 2), 4);
    }

    private static void sell() {
        due.promise(9);
        PromisedFish x = new PromisedFish();
        due.is("sell(-1, 1)", x.sell(-1, 1), Due.BEYOND);
        due.is("sell(4, 1)", x.sell(4, 1), Due.BEYOND);
        due.is("sell(0, -1)", x.sell(0, -1), Due.BEYOND);
        due.is("sell(0, 100)", x.sell(0, 100), Due.BEYOND);
        due.is("sell(0, 0)", x.sell(0, 0), 0);
        due.is("sell(0, 98)", x.sell(0, 98), 196);
        due.is("sell(0, 2)", x.sell(0, 2), Due.STATE);
        due.is("sell(0, 1)", x.sell(0, 1), 2);
        due.is("sell(0, 1)", x.sell(0, 1), Due.STATE);
        due.is("sell(0, 100)", x.sell(0, 100), Due.BEYOND);
        due.is("sell(0, 0)", x.sell(0, 0), 0);
        due.is("told(3)", x.told(3), 2);
        due.is("count(3)", x.count(3), 198);
        x.tell(99);
        x.tell(0);
        due.is("check", x.check(), 0);
        Due.text(x, 1, "n+t+p");
        due.is("COINS as SOLD is ahead", x.sell(1, 3), 3 * 22);
        due.is("COINS as SOLD is ahead, again", x.sell(1, 3), 3 * 25);
        due.is("count(3)", x.count(3), 198 + 66 + 75);
        Due.text(x, 1, "200");
        due.is("COINS are held at 99", x.sell(2, 2), 198);
        Due.text(x, 1, "0-7");
        due.is("COINS are held at 0", x.sell(2, 2), 0);
    }

    private static void sellHeld() {
        due.promise(9);
        PromisedFish x = new PromisedFish();
        Due.text(x, 1, "99");
        for (int day = 0; day < 2; day++) {
            for (int fish = 0; fish < 4; fish++) {
                x.price(fish, 0);
                due.is("sell(" + fish + ", 99)", x.sell(fish, 99), 9801);
            }
            x.tally();
        }
        x.sell(0, 99);
        x.sell(1, 99);
        due.is("count(3)", x.count(3), 98010);
        due.is("sell(2, 20)", x.sell(2, 20), 1980);
        due.is("count(3)", x.count(3), 99990);
        due.is("sell(2, 1): COINS for all, though not all of it is held", x.sell(2, 1), 99);
        due.is("count(3)", x.count(3), 99999);
        due.is("sell(3, 99)", x.sell(3, 99), 9801);
        due.is("count(3)", x.count(3), 99999);
    }
}
