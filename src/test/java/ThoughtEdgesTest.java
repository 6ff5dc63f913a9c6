/** The edges of promises 17 to 27: none, one, 99 and 100, the first sea and the last, whole fractions, wraps. */
public final class ThoughtEdgesTest {
    private static final Due due = new Due("ThoughtEdgesTest");
    private static final int MIN = Integer.MIN_VALUE;
    private static final int MAX = Integer.MAX_VALUE;

    public static void main(String[] args) {
        thoughtsAtNinetyNine();
        fractions();
        fitsFirstAndLast();
        needsJust();
        partsOfEachSign();
        due.end();
    }

    private static void thoughtsAtNinetyNine() {
        PromisedFish x = Due.fleet(0, 0);
        Due.text(x, 0, "n");
        due.promise(18);
        due.is("safe(0) of twice what is SOLD", x.safe(0), 99);
        Due.text(x, 0, "49");
        due.is("safe(0) of 98", x.safe(0), 98);
        Due.text(x, 0, "50");
        due.is("safe(0) of 100", x.safe(0), 99);
        Due.text(x, 0, "n*(n=99)");
        due.is("safe(0) of 99 alone", x.safe(0), 99);
        Due.text(x, 0, "n*(n=1)");
        due.is("safe(0) of 1 alone", x.safe(0), 1);
        Due.text(x, 0, "0");
        due.is("safe(0) of nothing", x.safe(0), 0);
        Due.text(x, 0, "99*(s+1>0)*(s<10)");
        due.is("safe(0) by WAVES of 0 to 9 and no others", x.safe(0), 99);
        Due.text(x, 0, "0");
        due.promise(19);
        due.is("best(0, 0) of nothing", x.best(0, 0), 0);
        due.is("best(0, 1) of nothing", x.best(0, 1), 0);
        Due.text(x, 0, "99");
        due.is("best(0, 0) of 198", x.best(0, 0), 99);
        due.is("best(0, 1) of 198", x.best(0, 1), 1980);
        Due.text(x, 1, "50+n*20");
        x.sell(0, 1);
        due.is("best(0, 1), as if 0 were SOLD", x.best(0, 1), 99 * 50 * 10);
        x.price(0, 9);
        Due.text(x, 1, "p*2");
        Due.text(x, 0, "0");
        due.is("best(0, 0), all alike: the least", x.best(0, 0), 0);
        due.is("best(0, 1), all alike", x.best(0, 1), 0);
        Due.text(x, 1, "p*2+1");
        due.is("best(0, 0), 1 more for each", x.best(0, 0), 99);
        due.is("best(0, 1), 1 more for each", x.best(0, 1), 990);
        Due.text(x, 1, "99");
        x.price(0, 0);
        due.is("best(0, 1), the most of all", x.best(0, 1), 98010);
        due.promise(20);
        agreesJust("49", 1, 98);
        agreesJust("50", 0, Due.NONE);
        agreesJust("99", 0, Due.NONE);
        agreesJust("0", 1, 0);
        agreesJust("n/2", 50, 0);
        agreesJust("n/2+(n=99)", 50, 0);
        agreesJust("(n+1)/2", 50, 0);
        agreesJust("n+1", 0, Due.NONE);
        agreesJust("n/2*(n>97)+99*(n<98)", 1, 98);
        agreesThree("33", 1, 99);
        agreesThree("n/3*(n>98)+99*(n<99)", 1, 99);
        due.promise(22);
        PromisedFish n = Due.fleet(0);
        Due.text(n, 0, "98");
        due.is("soonest(3, 98)", n.soonest(3, 98), 0);
        due.is("soonest(3, 99)", n.soonest(3, 99), Due.NONE);
        due.is("soonest(3, 0), no BOATS", new PromisedFish().soonest(3, 0), 0);
        due.is("soonest(3, 1), no BOATS", new PromisedFish().soonest(3, 1), Due.NONE);
    }

    private static void agreesJust(String text, int many, int least) {
        PromisedFish x = Due.fleet(0, 0);
        Due.text(x, 0, text);
        due.is("agrees(0, 0) of twice " + text, x.agrees(0, 0), many);
        due.is("agrees(0, 1) of twice " + text, x.agrees(0, 1), least);
    }

    private static void agreesThree(String text, int many, int least) {
        PromisedFish x = Due.fleet(0, 0, 0);
        Due.text(x, 0, text);
        due.is("agrees(0, 0) of three times " + text, x.agrees(0, 0), many);
        due.is("agrees(0, 1) of three times " + text, x.agrees(0, 1), least);
    }

    private static void fractions() {
        due.promise(23);
        PromisedFish x = Due.fleet(0);
        Due.text(x, 0, "98+(s=4)");
        due.is("odds(2, 98, 0)", x.odds(2, 98, 0), 1);
        due.is("odds(2, 98, 1)", x.odds(2, 98, 1), 1);
        due.is("odds(2, 99, 0)", x.odds(2, 99, 0), 1);
        due.is("odds(2, 99, 1)", x.odds(2, 99, 1), 10);
        Due.text(x, 0, "98");
        due.is("odds(2, 99, 0) of none", x.odds(2, 99, 0), 0);
        due.is("odds(2, 99, 1) of none", x.odds(2, 99, 1), 1);
        Due.text(x, 0, "99");
        due.is("odds(2, 99, 0) of all", x.odds(2, 99, 0), 1);
        due.is("odds(2, 99, 1) of all", x.odds(2, 99, 1), 1);
        due.is("odds(2, 0, 0), no BOATS", new PromisedFish().odds(2, 0, 0), 1);
        due.is("odds(2, 1, 0), no BOATS", new PromisedFish().odds(2, 1, 0), 0);
        due.is("odds(2, 1, 1), no BOATS", new PromisedFish().odds(2, 1, 1), 1);
        due.promise(24);
        due.is("mean(2, 0), no BOATS", new PromisedFish().mean(2, 0), 0);
        due.is("mean(2, 1), no BOATS", new PromisedFish().mean(2, 1), 1);
        PromisedFish six = Due.fleet(0, 0, 0, 0, 0, 0);
        Due.text(six, 0, "99");
        due.is("mean(3, 0), the most", six.mean(3, 0), 594);
        due.is("mean(3, 1), the most", six.mean(3, 1), 1);
        Due.text(six, 0, "99-(s=0)");
        due.is("mean(3, 0) of 5934 tenths", six.mean(3, 0), 2967);
        due.is("mean(3, 1) of 5934 tenths", six.mean(3, 1), 5);
        Due.text(x, 0, "1");
        due.is("mean(3, 0) of 10 tenths", x.mean(3, 0), 1);
        due.is("mean(3, 1) of 10 tenths", x.mean(3, 1), 1);
        Due.text(x, 0, "s>8");
        due.is("mean(3, 0) of the last sea", x.mean(3, 0), 1);
        due.is("mean(3, 1) of the last sea", x.mean(3, 1), 10);
        Due.text(x, 0, "n*(s<1)");
        x.sell(3, 99);
        due.is("mean(3, 0) of 99 tenths", x.mean(3, 0), 99);
        due.is("mean(3, 1) of 99 tenths", x.mean(3, 1), 10);
        due.is("mean(2, 0), none SOLD", x.mean(2, 0), 0);
        due.is("mean(2, 1), none SOLD", x.mean(2, 1), 1);
    }

    private static void fitsFirstAndLast() {
        due.promise(25);
        PromisedFish x = Due.fleet(5);
        x.sheet(3, 8, 1);
        for (int sea = 0; sea < 10; sea++) {
            x.put(3, 0, 10 - sea);
            due.is("fits(3, 0) of " + (10 - sea), x.fits(3, 0), 1 << sea);
            due.is("fits(3, 1) of " + (10 - sea), x.fits(3, 1), sea);
        }
        for (int none : new int[] {0, 11, -1}) {
            x.put(3, 0, none);
            due.is("fits(3, 0) of " + none, x.fits(3, 0), 0);
            due.is("fits(3, 1) of " + none, x.fits(3, 1), Due.NONE);
        }
        PromisedFish zeros = new PromisedFish();
        for (int n = 0; n <= 24; n++) {
            zeros.sheet(0, 32, n);
            due.is("fits(0, 0) of " + n + " zeros, no BOATS", zeros.fits(0, 0), n > 4 ? 0 : 1023);
            due.is("fits(0, 1) of " + n + " zeros, no BOATS", zeros.fits(0, 1), n > 4 ? Due.NONE : 0);
        }
    }

    private static void needsJust() {
        due.promise(21);
        PromisedFish x = Due.fleet(5, 5, 5, 5, 5, 5);
        x.image();
        for (int sold = 0; sold <= 62; sold++) {
            x.restore();
            x.sell(3, sold);
            int many = (sold + 9) / 10;
            due.is("needs(0) for " + sold, x.needs(0), many > 6 ? Due.NONE : many);
            due.is("needs(1) for " + sold, x.needs(1), many > 6 ? Due.NONE : (1 << many) - 1);
        }
        x.restore();
        x.sell(0, 10);
        x.lose(0, 1);
        due.is("needs(1) without the first", x.needs(1), 2);
        for (int boat = 1; boat < 5; boat++) {
            x.lose(boat, 1);
        }
        due.is("needs(1) of the last", x.needs(1), 32);
        x.lose(5, 1);
        due.is("needs(1), all being LOST", x.needs(1), Due.NONE);
        x.tally();
        due.is("needs(1) for nothing, all being LOST", x.needs(1), 0);
    }

    private static void partsOfEachSign() {
        due.promise(26);
        int[] all = {0, 1, -1, 7, -7, MAX, MIN};
        for (int k = 0; k < 6; k++) {
            PromisedFish x = Due.fleet(0, 0, 0, 0, 0, 0);
            for (int m = 0; m < 10; m++) {
                x.become(k, m);
                int v = all[(k + m) % all.length];
                due.is("parts(" + v + "), m " + m + ", k " + k, x.voice(k, 3, v), m == k ? Due.PARTED : v / (m - k));
                due.is("calls(" + v + "), m " + m + ", k " + k, x.voice(k, 0, v), v + k);
                due.is("hauls(" + v + "), m " + m + ", k " + k, x.voice(k, 1, v), (v + k) * 2);
                due.is("lets(" + v + "), m " + m + ", k " + k, x.voice(k, 2, v), (v + k) * 2 - m);
            }
            due.is("told(6)", x.told(6), 1);
        }
        PromisedFish x = Due.fleet(39, 25);
        due.is("a DRIFTER's lets(-1): half of it is 0", x.voice(0, 2, -1), -9);
        due.is("a DRIFTER's lets(1): half of it is 0", x.voice(0, 2, 1), -9);
        due.is("a DRIFTER's lets(min)", x.voice(0, 2, MIN), MIN - 9);
        due.is("a DRIFTER's lets(max)", x.voice(0, 2, MAX), MAX - 1 - 9);
        due.is("a SKIFF's hauls(min)", x.voice(1, 1, MIN), -2);
        due.is("a SKIFF's hauls, that wraps", x.voice(1, 1, (1 << 30) - 1), MIN);
        x.become(1, 55);
        due.is("a COBLE's hauls(max)", x.voice(1, 1, MAX), -2);
    }
}
