/** Promises 17 to 25: what would be. */
public final class ThoughtsTest {
    private static final Due due = new Due("ThoughtsTest");

    public static void main(String[] args) {
        catches();
        safe();
        best();
        agrees();
        needs();
        soonest();
        odds();
        mean();
        fits();
        onlyThought();
        due.end();
    }

    private static PromisedFish fleet(int... kms) {
        PromisedFish x = new PromisedFish();
        for (int km : kms) {
            x.boat(km);
        }
        return x;
    }

    private static void catches() {
        due.promise(17);
        PromisedFish x = fleet(5, 13, 69);
        due.is("catches(-1)", x.catches(-1), Due.BEYOND);
        due.is("catches(4)", x.catches(4), Due.BEYOND);
        due.is("catches(max)", x.catches(Integer.MAX_VALUE), Due.BEYOND);
        due.is("catches(0)", x.catches(0), 10 + 13 + 11);
        due.is("catches(3)", x.catches(3), 10 + 13 + 8);
        x.rises(7);
        due.is("catches(0)", x.catches(0), 3 + 6 + 0);
        x.lose(1, 1);
        due.is("catches(0)", x.catches(0), 3);
        Due.text(x, 0, "c+s+n+100");
        due.is("catches(0)", x.catches(0), 198);
        Due.text(x, 0, "s+n");
        x.sell(1, 20);
        due.is("catches(1)", x.catches(1), 54);
        due.is("catches(2)", x.catches(2), 14);
        PromisedFish most = fleet(0, 0, 0, 0, 0, 0);
        Due.text(most, 0, "99");
        due.is("catches(0), six of them", most.catches(0), 594);
    }

    private static void safe() {
        due.promise(18);
        due.is("safe(-1)", new PromisedFish().safe(-1), Due.BEYOND);
        due.is("safe(4)", new PromisedFish().safe(4), Due.BEYOND);
        due.is("safe(3), no BOATS", new PromisedFish().safe(3), 0);
        due.is("safe(0) of 19 less WAVES", fleet(19).safe(0), 10);
        PromisedFish two = fleet(5, 60);
        due.is("safe(0) of 10 - w and 20 - 2w", two.safe(0), 1 + 2);
        two.rises(5);
        two.sell(0, 80);
        due.is("safe(0) does not hang on WAVES or SOLD", two.safe(0), 3);
        PromisedFish x = fleet(10);
        Due.text(x, 0, "n*(s<10)");
        due.is("safe(0) of all that is SOLD", x.safe(0), 99);
        Due.text(x, 0, "n*(n<40)+n*(n=60)");
        due.is("safe(0), the greatest, though not all below are", x.safe(0), 60);
        Due.text(x, 0, "n*!(s=9)");
        due.is("safe(0), not by the last WAVES", x.safe(0), 0);
        Due.text(x, 0, "n*!(s=0)+5");
        due.is("safe(0), not by the first WAVES", x.safe(0), 5);
        Due.text(x, 0, "n-1");
        due.is("safe(0), 0 always is", x.safe(0), 0);
        due.is("DAY counts: safe(1)", lugger(3).safe(1), 4);
        due.is("safe(0) of 1 in the worst sea", fleet(10).safe(0), 1);
    }

    private static PromisedFish lugger(int days) {
        PromisedFish x = fleet(40);
        for (int i = 0; i < days; i++) {
            x.tally();
        }
        return x;
    }

    private static void best() {
        due.promise(19);
        PromisedFish none = new PromisedFish();
        due.is("best(-1, 0)", none.best(-1, 0), Due.BEYOND);
        due.is("best(4, 0)", none.best(4, 0), Due.BEYOND);
        due.is("best(0, 2)", none.best(0, 2), Due.BEYOND);
        due.is("best(0, -1)", none.best(0, -1), Due.BEYOND);
        due.is("best(0, 0)", none.best(0, 0), 0);
        due.is("best(0, 1)", none.best(0, 1), 0);
        // CATCH is 10 - w: n brings 20n, less 4 for each that is missing in a sea: 1 .. 6 are worth it
        PromisedFish x = fleet(5);
        due.is("best(0, 0)", x.best(0, 0), 5);
        due.is("best(0, 1)", x.best(0, 1), 5 * 20 - 4 * (4 + 3 + 2 + 1));
        x.sell(0, 50);
        x.rises(9);
        due.is("best(0, 0), nothing else changing it", x.best(0, 0), 5);
        x.price(0, 9);
        due.is("best(0, 0) at 9", x.best(0, 0), 5);
        due.is("best(0, 1) at 9", x.best(0, 1), 450 - 180);
        x.price(0, 0);
        due.is("best(0, 0) at 0, of all the least", x.best(0, 0), 0);
        due.is("best(0, 1) at 0", x.best(0, 1), 0);
        x.price(0, 1);
        Due.text(x, 1, "p*9");
        due.is("best(0, 0), COINS more than it costs", x.best(0, 0), 99);
        due.is("best(0, 1)", x.best(0, 1), 10 * 99 * 9 - 2 * (990 - 55));
        Due.text(x, 1, "99-n");
        due.is("best(0, 1), COINS as if 0 were SOLD", x.best(0, 1), 10 * 99 * 99 - 2 * (990 - 55));
        Due.text(x, 1, "t");
        due.is("best(0, 1) by TRUST 20", x.best(0, 1), 10 * 99 * 20 - 2 * (990 - 55));
        Due.text(x, 1, "0");
        due.is("best(0, 0), COINS 0: the least of those that cost nothing", x.best(0, 0), 0);
        x.untell(1);
        Due.text(x, 0, "n*(n>89)*(s<9)");
        due.is("best(0, 0), it lands from 90 on", x.best(0, 0), 99);
        due.is("best(0, 1)", x.best(0, 1), 990 - 2 * 99);
        Due.text(x, 0, "1");
        due.is("best(0, 0) of 1 in any sea", x.best(0, 0), 1);
        due.is("best(0, 1) of 1 in any sea", x.best(0, 1), 10);
        Due.text(x, 0, "50");
        due.is("best(0, 0) of 50 in any sea", x.best(0, 0), 50);
        due.is("best(0, 1) of 50 in any sea", x.best(0, 1), 500);
    }

    private static void agrees() {
        due.promise(20);
        PromisedFish x = fleet(5);
        due.is("agrees(-1, 0)", x.agrees(-1, 0), Due.BEYOND);
        due.is("agrees(4, 0)", x.agrees(4, 0), Due.BEYOND);
        due.is("agrees(0, 2)", x.agrees(0, 2), Due.BEYOND);
        due.is("agrees(0, -1)", x.agrees(0, -1), Due.BEYOND);
        due.is("agrees(0, 0)", x.agrees(0, 0), 1);
        due.is("agrees(0, 1)", x.agrees(0, 1), 10);
        x.rises(4);
        due.is("agrees(0, 1)", x.agrees(0, 1), 6);
        Due.text(x, 0, "n");
        due.is("agrees(0, 0)", x.agrees(0, 0), 100);
        due.is("agrees(0, 1)", x.agrees(0, 1), 0);
        Due.text(x, 0, "n+1");
        due.is("agrees(0, 0), held at 99", x.agrees(0, 0), 1);
        due.is("agrees(0, 1)", x.agrees(0, 1), 99);
        Due.text(x, 0, "n+!n");
        due.is("agrees(0, 0)", x.agrees(0, 0), 99);
        due.is("agrees(0, 1)", x.agrees(0, 1), 1);
        x.boat(0);
        due.is("agrees(0, 0), n + n", x.agrees(0, 0), 0);
        int none = x.told(2);
        due.is("agrees(0, 1), n + n", x.agrees(0, 1), Due.NONE);
        due.is("told(2)", x.told(2), none + 1);
        Due.text(x, 0, "n/2");
        due.is("agrees(0, 0), the even ones", x.agrees(0, 0), 50);
        due.is("agrees(4, 1)", x.agrees(4, 1), Due.BEYOND);
    }

    private static void needs() {
        due.promise(21);
        PromisedFish x = new PromisedFish();
        due.is("needs(-1)", x.needs(-1), Due.BEYOND);
        due.is("needs(2)", x.needs(2), Due.BEYOND);
        due.is("needs(0)", x.needs(0), 0);
        due.is("needs(1)", x.needs(1), 0);
        x.sell(0, 1);
        due.is("needs(0), no BOATS", x.needs(0), Due.NONE);
        due.is("needs(1), no BOATS", x.needs(1), Due.NONE);
        due.is("needs(2), no BOATS", x.needs(2), Due.BEYOND);
        // LANDS: 5, 8, 5, 10, 8, 2
        x = fleet(0, 3, 0, 10, 3, 20);
        int[][] rows = {{1, 1, 1}, {5, 1, 1}, {6, 1, 2}, {8, 1, 2}, {9, 1, 8}, {10, 1, 8}, {11, 2, 3}, {14, 2, 9},
            {16, 2, 10}, {18, 2, 10}, {19, 3, 11}, {26, 3, 26}, {27, 4, 15}, {28, 4, 15}, {29, 4, 27}, {31, 4, 27}, {32, 5, 31}, {36, 5, 31},
            {37, 6, 63}, {38, 6, 63}};
        due.is("needs(0) for nothing", x.needs(0), 0);
        due.is("needs(1) for nothing", x.needs(1), 0);
        x.image();
        for (int[] row : rows) {
            x.restore();
            x.sell(2, row[0]);
            due.is("needs(0) for " + row[0], x.needs(0), row[1]);
            due.is("needs(1) for " + row[0], x.needs(1), row[2]);
        }
        x.restore();
        x.sell(2, 39);
        due.is("needs(0) for 39", x.needs(0), Due.NONE);
        x.restore();
        x.sell(1, 9);
        x.lose(3, 1);
        due.is("needs(1) without the one that is LOST", x.needs(1), 3);
        x.rises(9);
        due.is("needs(1) by WAVES 9", x.needs(1), Due.NONE);
        // one lands of FISH 1 only (twice 10, else 5), one of FISH 2 only
        x = fleet(35, 36);
        x.sell(1, 20);
        due.is("needs(1), FISH 1", x.needs(1), 1);
        x.sell(2, 22);
        due.is("needs(1), FISH 1 and 2", x.needs(1), 3);
        x.sell(3, 11);
        due.is("needs(1), and FISH 3", x.needs(1), Due.NONE);
    }

    private static void soonest() {
        due.promise(22);
        PromisedFish x = fleet(40);
        due.is("soonest(-1, 0)", x.soonest(-1, 0), Due.BEYOND);
        due.is("soonest(4, 0)", x.soonest(4, 0), Due.BEYOND);
        due.is("soonest(0, -1)", x.soonest(0, -1), Due.BEYOND);
        due.is("soonest(0, 100)", x.soonest(0, 100), Due.BEYOND);
        due.is("soonest(0, 0)", x.soonest(0, 0), 0);
        due.is("soonest(0, 10)", x.soonest(0, 10), 0);
        due.is("soonest(0, 11)", x.soonest(0, 11), 1);
        due.is("soonest(0, 14)", x.soonest(0, 14), 4);
        due.is("soonest(0, 15)", x.soonest(0, 15), Due.NONE);
        x.tally();
        x.tally();
        x.tally();
        due.is("soonest(0, 13) on DAY 3", x.soonest(0, 13), 0);
        due.is("soonest(0, 14) on DAY 3", x.soonest(0, 14), 1);
        x.rises(2);
        due.is("soonest(0, 12) by WAVES 2", x.soonest(0, 12), 1);
        due.is("soonest(0, 13) by WAVES 2", x.soonest(0, 13), Due.NONE);
        Due.text(x, 0, "n-20*(c<12)");
        due.is("soonest(0, 99), n being SOLD", x.soonest(0, 99), 1);
        due.is("told(2)", x.told(2), 2);
    }

    private static void odds() {
        due.promise(23);
        PromisedFish x = fleet(5);
        due.is("odds(-1, 0, 0)", x.odds(-1, 0, 0), Due.BEYOND);
        due.is("odds(4, 0, 0)", x.odds(4, 0, 0), Due.BEYOND);
        due.is("odds(0, -1, 0)", x.odds(0, -1, 0), Due.BEYOND);
        due.is("odds(0, 100, 0)", x.odds(0, 100, 0), Due.BEYOND);
        due.is("odds(0, 0, 2)", x.odds(0, 0, 2), Due.BEYOND);
        due.is("odds(0, 0, -1)", x.odds(0, 0, -1), Due.BEYOND);
        int[][] lowest = {{1, 1}, {1, 1}, {9, 10}, {4, 5}, {7, 10}, {3, 5}, {1, 2}, {2, 5}, {3, 10}, {1, 5}, {1, 10}, {0, 1}};
        for (int waves = 0; waves < 10; waves += 9) {
            x.rises(waves);
            for (int n = 0; n < lowest.length; n++) {
                due.is("odds(0, " + n + ", 0)", x.odds(0, n, 0), lowest[n][0]);
                due.is("odds(0, " + n + ", 1)", x.odds(0, n, 1), lowest[n][1]);
            }
        }
        Due.text(x, 0, "n-(s>n)");
        due.is("odds(0, 7, 0), n being SOLD", x.odds(0, 7, 0), 4);
        due.is("odds(0, 7, 1), n being SOLD", x.odds(0, 7, 1), 5);
    }

    private static void mean() {
        due.promise(24);
        PromisedFish x = fleet(5);
        due.is("mean(-1, 0)", x.mean(-1, 0), Due.BEYOND);
        due.is("mean(4, 0)", x.mean(4, 0), Due.BEYOND);
        due.is("mean(0, -1)", x.mean(0, -1), Due.BEYOND);
        due.is("mean(0, 2)", x.mean(0, 2), Due.BEYOND);
        due.is("mean(0, 0) of 55 tenths", x.mean(0, 0), 11);
        due.is("mean(0, 1) of 55 tenths", x.mean(0, 1), 2);
        x.rises(6);
        due.is("mean(0, 0), whatever WAVES are", x.mean(0, 0), 11);
        int[][] rows = {{0, 0, 1}, {1, 1, 10}, {2, 1, 5}, {4, 2, 5}, {5, 1, 2}, {9, 9, 10}};
        for (int[] row : rows) {
            Due.text(x, 0, "s<" + row[0]);
            due.is("mean(0, 0) of " + row[0] + " tenths", x.mean(0, 0), row[1]);
            due.is("mean(0, 1) of " + row[0] + " tenths", x.mean(0, 1), row[2]);
        }
        Due.text(x, 0, "n");
        x.sell(0, 33);
        due.is("mean(0, 0), as SOLD is", x.mean(0, 0), 33);
        due.is("mean(0, 1), as SOLD is", x.mean(0, 1), 1);
        due.is("mean(1, 0), as SOLD is", x.mean(1, 0), 0);
        x.boat(0);
        Due.text(x, 0, "99-s");
        due.is("mean(0, 0) of two", x.mean(0, 0), 189);
        due.is("mean(0, 1) of two", x.mean(0, 1), 1);
    }

    private static void fits() {
        due.promise(25);
        PromisedFish x = fleet(5, 60);
        due.is("fits(-1, 0)", x.fits(-1, 0), Due.BEYOND);
        due.is("fits(4, 0)", x.fits(4, 0), Due.BEYOND);
        due.is("fits(0, 2)", x.fits(0, 2), Due.BEYOND);
        due.is("fits(0, -1)", x.fits(0, -1), Due.BEYOND);
        due.is("fits(0, 0), missing", x.fits(0, 0), Due.NONE);
        due.is("fits(0, 1), missing", x.fits(0, 1), Due.NONE);
        x.sheet(0, 16, 0);
        due.is("fits(0, 0) of no numbers", x.fits(0, 0), 1023);
        due.is("fits(0, 1) of no numbers", x.fits(0, 1), 0);
        // CATCH of FISH f by WAVES w: 10 - w and 20 - 2w - f
        x.sheet(0, 16, 4);
        int[] by3 = {21, 20, 19, 18};
        for (int f = 0; f < 4; f++) {
            due.is("fits(0, 0), not yet", x.fits(0, 0), 0);
            due.is("fits(0, 1), not yet", x.fits(0, 1), Due.NONE);
            x.put(0, f, by3[f]);
        }
        due.is("fits(0, 0)", x.fits(0, 0), 8);
        due.is("fits(0, 1)", x.fits(0, 1), 3);
        due.is("told(2)", x.told(2), 6);
        x.put(0, 0, 20);
        due.is("fits(0, 0), the first being wrong", x.fits(0, 0), 0);
        x.put(0, 0, 21);
        x.sheet(1, 16, 5);
        x.move(0, 0, 1, 0, 4);
        due.is("fits(1, 0), of five FISH", x.fits(1, 0), 0);
        due.is("fits(1, 1), of five FISH", x.fits(1, 1), Due.NONE);
        x.sheet(1, 16, 2);
        x.move(0, 0, 1, 0, 2);
        due.is("fits(1, 0), of two FISH", x.fits(1, 0), 8);
        Due.text(x, 0, "c*(s=2|s=5)");
        x.sheet(2, 32, 2);
        due.is("fits(2, 0) of zeros", x.fits(2, 0), 1023 - 4 - 32);
        due.is("fits(2, 1) of zeros", x.fits(2, 1), 0);
        Due.text(x, 0, "n*(s=2|s=5)");
        x.sell(1, 9);
        x.put(2, 1, 18);
        due.is("fits(2, 0), as SOLD is", x.fits(2, 0), 4 + 32);
        due.is("fits(2, 1), as SOLD is", x.fits(2, 1), 2);
    }

    private static void onlyThought() {
        due.promise(25);
        PromisedFish x = fleet(5, 13, 42);
        x.rises(3);
        x.sell(0, 20);
        x.sheet(0, 8, 3);
        int[] ahead = new int[10];
        for (int what = 0; what < 10; what++) {
            ahead[what] = x.count(what);
        }
        for (int f = 0; f < 4; f++) {
            x.catches(f);
            x.safe(f);
            x.soonest(f, 99);
            for (int what = 0; what < 2; what++) {
                x.best(f, what);
                x.agrees(f, what);
                x.needs(what);
                x.odds(f, 50, what);
                x.mean(f, what);
                x.fits(0, what);
            }
        }
        for (int what = 0; what < 10; what++) {
            due.is("count(" + what + ") after all that thought", x.count(what), ahead[what]);
        }
        x.tell(20);
        x.tell(0);
        due.is("check", x.check(), 0);
    }
}
