import java.util.ArrayList;
import java.util.List;
import java.util.function.Supplier;
import java.util.function.ToIntFunction;

/**
 * "One that answers an ERROR changes nothing but what told() tells": each call of promises 2 to 38 with each of its
 * ERRORS, on one of two objects that were made alike; told() tells just that one ERROR more, and then both answer alike.
 */
public final class RefusedTest {
    private static final Due due = new Due("RefusedTest");
    private static final int MIN = Integer.MIN_VALUE;
    private static final int MAX = Integer.MAX_VALUE;

    private static Supplier<PromisedFish> quay;

    public static void main(String[] args) {
        boatsAndSales();
        texts();
        evenings();
        thoughts();
        voices();
        sheets();
        images();
        due.end();
    }

    private static void refused(int promise, String call, ToIntFunction<PromisedFish> act, int error) {
        due.promise(promise);
        PromisedFish alike = quay.get();
        PromisedFish x = quay.get();
        int[] ahead = errors(x);
        due.is(call, act.applyAsInt(x), error);
        int[] behind = errors(x);
        for (int k = 1; k <= 6; k++) {
            due.is("told(" + k + ") behind " + call, behind[k], ahead[k] + (k == Due.LOW - error ? 1 : 0));
        }
        errors(alike);
        List<Integer> want = all(alike);
        List<Integer> got = all(x);
        for (int i = 0; i < want.size(); i++) {
            due.is("answer " + i + " behind " + call, got.get(i), want.get(i));
        }
    }

    private static int[] errors(PromisedFish x) {
        int[] all = new int[7];
        for (int k = 1; k <= 6; k++) {
            all[k] = x.told(k);
        }
        return all;
    }

    /** All that can be seen, then all of the IMAGE; what is seen is used up by it. */
    private static List<Integer> all(PromisedFish x) {
        List<Integer> seen = new ArrayList<>();
        seenNow(x, seen);
        for (int sheet = 0; sheet < 4; sheet++) {
            seen.add(x.prices(sheet));
            seenPrices(x, seen);
        }
        seen.add(x.restore());
        seenNow(x, seen);
        seen.add(x.image());
        return seen;
    }

    private static void seenPrices(PromisedFish x, List<Integer> seen) {
        for (int fish = 0; fish < 4; fish++) {
            seen.add(x.price(fish, 1));
        }
    }

    private static void seenNow(PromisedFish x, List<Integer> seen) {
        for (int what = 0; what < 10; what++) {
            seen.add(x.count(what));
        }
        for (int i = 0; i < 7; i++) {
            seen.add(x.body(i));
        }
        for (int boat = 0; boat < 6; boat++) {
            for (int what = 0; what < 3; what++) {
                seen.add(x.boatIs(boat, what));
            }
        }
        seenPrices(x, seen);
        seen.add(x.law(0, 3, 40, 5));
        seen.add(x.law(1, 3, 40, 5));
        seen.add(x.check());
        seen.add(x.text(0));
        seen.add(x.law(0, 7, 3, 2));
        for (int boat = 1; boat < 6; boat++) {
            x.lose(boat, 1);
        }
        x.lose(0, 0);
        x.feed('n', 1);
        x.text(0);
        for (int fish = 0; fish < 4; fish++) {
            seen.add(x.catches(fish));
        }
    }

    /** Six BOATS, THE TAPE nearly full, an IMAGE that is other than what is now. */
    private static PromisedFish busy() {
        PromisedFish x = new PromisedFish();
        x.boat(45);
        x.boat(31);
        Due.text(x, 1, "t");
        x.sell(3, 8);
        x.seed(44);
        x.feed('s', 1);
        x.image();
        return filled(x);
    }

    private static PromisedFish filled(PromisedFish x) {
        x.tally();
        for (int km = 2; km < 63; km += 20) {
            x.boat(km);
        }
        x.lose(1, 1);
        x.text(0);
        Due.text(x, 0, "c+s");
        Due.text(x, 1, "p+n");
        x.rises(3);
        int[] sold = {5, 99, 0, 7};
        for (int fish = 0; fish < 4; fish++) {
            x.price(fish, 3 + fish);
            x.sell(fish, sold[fish]);
            x.tell(sold[fish]);
        }
        // six times "c+c+s+n+", then "s+n-099"
        for (int i = 0; i < 6; i++) {
            x.feed(0x2b6e2b732b632b63L, 8);
        }
        x.feed(0x302d6e2b73L, 5);
        x.feed('9', 1);
        x.feed('9', 1);
        x.sheet(0, 8, 4);
        x.sheet(1, 16, 3);
        x.sheet(2, 32, 0);
        for (int i = 0; i < 3; i++) {
            x.put(0, i, 9 - i);
            x.put(1, i, 4 + i);
        }
        x.voice(0, 2, 5);
        return x;
    }

    private static PromisedFish waiting() {
        PromisedFish x = busy();
        for (int i = 0; i < 20; i++) {
            x.tell(0);
        }
        return x;
    }

    private static PromisedFish lastDay() {
        PromisedFish x = new PromisedFish();
        for (int i = 0; i < 333; i++) {
            x.loose(30);
        }
        x.loose(8);
        x.boat(40);
        x.boat(3);
        x.image();
        x.tally();
        x.sell(1, 20);
        x.tell(0);
        x.tell(20);
        return x;
    }

    private static PromisedFish early() {
        PromisedFish x = new PromisedFish();
        x.boat(11);
        x.sell(2, 99);
        x.voice(0, 2, 7);
        x.feed('c', 1);
        x.tell(0);
        return x;
    }

    private static void boatsAndSales() {
        quay = RefusedTest::busy;
        refused(2, "boat(0), six there", x -> x.boat(0), Due.FULL);
        refused(2, "boat(69), six there", x -> x.boat(69), Due.FULL);
        for (int km : new int[] {-1, 70, MIN, MAX}) {
            refused(2, "boat(" + km + "), six there", x -> x.boat(km), Due.BEYOND);
            refused(4, "become(0, " + km + ")", x -> x.become(0, km), Due.BEYOND);
        }
        for (int boat : new int[] {-1, 6, MIN, MAX}) {
            refused(3, "boatIs(" + boat + ", 0)", x -> x.boatIs(boat, 0), Due.BEYOND);
            refused(4, "become(" + boat + ", 0)", x -> x.become(boat, 0), Due.BEYOND);
            refused(5, "as(" + boat + ", 0)", x -> x.as(boat, 0), Due.BEYOND);
            refused(6, "lose(" + boat + ", 1)", x -> x.lose(boat, 1), Due.BEYOND);
        }
        for (int what : new int[] {-1, 8, MIN, MAX}) {
            refused(3, "boatIs(0, " + what + ")", x -> x.boatIs(0, what), Due.BEYOND);
        }
        for (int kind : new int[] {-1, 7, MIN, MAX}) {
            refused(5, "as(0, " + kind + ")", x -> x.as(0, kind), Due.BEYOND);
        }
        refused(5, "as(0, 6), a LUGGER", x -> x.as(0, 6), Due.KIND);
        refused(5, "as(1, 4), a DRIFTER", x -> x.as(1, 4), Due.KIND);
        for (int is : new int[] {-1, 2, MIN, MAX}) {
            refused(6, "lose(0, " + is + ")", x -> x.lose(0, is), Due.BEYOND);
            refused(6, "lose(1, " + is + "), LOST", x -> x.lose(1, is), Due.BEYOND);
        }
        for (int v : new int[] {-1, 10, MIN, MAX}) {
            refused(7, "rises(" + v + ")", x -> x.rises(v), Due.BEYOND);
            refused(8, "price(3, " + v + ")", x -> x.price(3, v), Due.BEYOND);
        }
        for (int fish : new int[] {-1, 4, MIN, MAX}) {
            refused(8, "price(" + fish + ", 1)", x -> x.price(fish, 1), Due.BEYOND);
            refused(9, "sell(" + fish + ", 1)", x -> x.sell(fish, 1), Due.BEYOND);
        }
        for (int n : new int[] {-1, 100, MIN, MAX}) {
            refused(9, "sell(2, " + n + ")", x -> x.sell(2, n), Due.BEYOND);
            refused(9, "sell(1, " + n + "), 99 being SOLD", x -> x.sell(1, n), Due.BEYOND);
        }
        refused(9, "sell(1, 1), 99 being SOLD", x -> x.sell(1, 1), Due.STATE);
        refused(9, "sell(0, 95), 5 being SOLD", x -> x.sell(0, 95), Due.STATE);
        refused(9, "sell(3, 99), 7 being SOLD", x -> x.sell(3, 99), Due.STATE);
    }

    private static void texts() {
        quay = RefusedTest::busy;
        for (int n : new int[] {-1, 0, 9, MIN, MAX}) {
            refused(10, "feed(0, " + n + ")", x -> x.feed(0, n), Due.BEYOND);
        }
        refused(10, "feed(.., 6), 55 there", x -> x.feed(-1L, 6), Due.FULL);
        refused(10, "feed(.., 8), 55 there", x -> x.feed(-1L, 8), Due.FULL);
        for (int use : new int[] {-1, 2, MIN, MAX}) {
            refused(11, "text(" + use + ")", x -> x.text(use), Due.BEYOND);
            refused(12, "untell(" + use + ")", x -> x.untell(use), Due.BEYOND);
            refused(13, "law(" + use + ", ..)", x -> x.law(use, 1, 2, 3), Due.BEYOND);
        }
    }

    private static void evenings() {
        quay = RefusedTest::busy;
        for (int n : new int[] {-1, 0, 31, MIN, MAX}) {
            refused(15, "loose(" + n + ")", x -> x.loose(n), Due.BEYOND);
        }
        quay = RefusedTest::lastDay;
        refused(14, "tally, DAY being 9999", x -> x.tally(), Due.STATE);
        refused(15, "loose(1), DAY being 9999", x -> x.loose(1), Due.STATE);
        refused(15, "loose(30), DAY being 9999", x -> x.loose(30), Due.STATE);
        refused(15, "loose(0), DAY being 9999", x -> x.loose(0), Due.BEYOND);
        refused(15, "loose(31), DAY being 9999", x -> x.loose(31), Due.BEYOND);
    }

    private static void thoughts() {
        quay = RefusedTest::busy;
        for (int fish : new int[] {-1, 4, MIN, MAX}) {
            refused(17, "catches(" + fish + ")", x -> x.catches(fish), Due.BEYOND);
            refused(18, "safe(" + fish + ")", x -> x.safe(fish), Due.BEYOND);
            refused(19, "best(" + fish + ", 0)", x -> x.best(fish, 0), Due.BEYOND);
            refused(20, "agrees(" + fish + ", 0)", x -> x.agrees(fish, 0), Due.BEYOND);
            refused(22, "soonest(" + fish + ", 0)", x -> x.soonest(fish, 0), Due.BEYOND);
            refused(23, "odds(" + fish + ", 0, 0)", x -> x.odds(fish, 0, 0), Due.BEYOND);
            refused(24, "mean(" + fish + ", 0)", x -> x.mean(fish, 0), Due.BEYOND);
            refused(25, "fits(" + fish + ", 0)", x -> x.fits(fish, 0), Due.BEYOND);
        }
        for (int what : new int[] {-1, 2, MIN, MAX}) {
            refused(19, "best(0, " + what + ")", x -> x.best(0, what), Due.BEYOND);
            refused(20, "agrees(0, " + what + ")", x -> x.agrees(0, what), Due.BEYOND);
            refused(21, "needs(" + what + ")", x -> x.needs(what), Due.BEYOND);
            refused(23, "odds(0, 0, " + what + ")", x -> x.odds(0, 0, what), Due.BEYOND);
            refused(24, "mean(0, " + what + ")", x -> x.mean(0, what), Due.BEYOND);
            refused(25, "fits(0, " + what + ")", x -> x.fits(0, what), Due.BEYOND);
            refused(25, "fits(3, " + what + "), missing", x -> x.fits(3, what), Due.BEYOND);
        }
        for (int n : new int[] {-1, 100, MIN, MAX}) {
            refused(22, "soonest(0, " + n + ")", x -> x.soonest(0, n), Due.BEYOND);
            refused(23, "odds(0, " + n + ", 0)", x -> x.odds(0, n, 0), Due.BEYOND);
        }
        refused(21, "needs(0), not all together", x -> x.needs(0), Due.NONE);
        refused(21, "needs(1), not all together", x -> x.needs(1), Due.NONE);
        refused(22, "soonest(0, 99), never", x -> x.soonest(0, 99), Due.NONE);
        refused(25, "fits(3, 0), missing", x -> x.fits(3, 0), Due.NONE);
        refused(25, "fits(3, 1), missing", x -> x.fits(3, 1), Due.NONE);
        refused(25, "fits(0, 1), there are none", x -> x.fits(0, 1), Due.NONE);
        quay = () -> {
            PromisedFish x = busy();
            x.text(0);
            Due.text(x, 0, "n+1");
            return x;
        };
        refused(20, "agrees(0, 1), there is none", x -> x.agrees(0, 1), Due.NONE);
    }

    private static void voices() {
        quay = RefusedTest::busy;
        for (int boat : new int[] {-1, 6, MIN, MAX}) {
            refused(26, "voice(" + boat + ", 0, 0)", x -> x.voice(boat, 0, 0), Due.BEYOND);
        }
        for (int voice : new int[] {-1, 4, MIN, MAX}) {
            refused(26, "voice(0, " + voice + ", 0)", x -> x.voice(0, voice, 0), Due.BEYOND);
            refused(26, "voice(2, " + voice + ", 0), where parts parts", x -> x.voice(2, voice, 0), Due.BEYOND);
        }
        for (int i : new int[] {-1, 6, 30, MIN, MAX}) {
            refused(27, "body(" + i + ")", x -> x.body(i), Due.NONE);
        }
        // PARTED has a TRACE of its own; here it is the same as the one ahead
        quay = () -> {
            PromisedFish x = busy();
            x.voice(2, 3, 99);
            return x;
        };
        refused(26, "voice(2, 3, 7)", x -> x.voice(2, 3, 7), Due.PARTED);
    }

    private static void sheets() {
        quay = RefusedTest::busy;
        for (int sheet : new int[] {-1, 4, MIN, MAX}) {
            refused(28, "sheet(" + sheet + ", 8, 1)", x -> x.sheet(sheet, 8, 1), Due.BEYOND);
            refused(28, "sheet(" + sheet + ", 0, 1)", x -> x.sheet(sheet, 0, 1), Due.BEYOND);
            refused(28, "sheet(" + sheet + ", 8, -1)", x -> x.sheet(sheet, 8, -1), Due.BEYOND);
            refused(29, "put(" + sheet + ", 0, 1)", x -> x.put(sheet, 0, 1), Due.BEYOND);
            refused(30, "move(" + sheet + ", 0, 0, 0, 1)", x -> x.move(sheet, 0, 0, 0, 1), Due.BEYOND);
            refused(30, "move(0, 0, " + sheet + ", 0, 1)", x -> x.move(0, 0, sheet, 0, 1), Due.BEYOND);
            refused(30, "move(3, 0, " + sheet + ", 0, 1), missing", x -> x.move(3, 0, sheet, 0, 1), Due.BEYOND);
            refused(31, "prices(" + sheet + ")", x -> x.prices(sheet), Due.BEYOND);
            refused(32, "judge(" + sheet + ")", x -> x.judge(sheet), Due.BEYOND);
        }
        for (int bits : new int[] {-8, -1, 1, 7, 9, 15, 17, 24, 31, 33, 64, MIN, MAX}) {
            refused(28, "sheet(0, " + bits + ", 1)", x -> x.sheet(0, bits, 1), Due.BEYOND);
            refused(28, "sheet(0, " + bits + ", -1)", x -> x.sheet(0, bits, -1), Due.BEYOND);
        }
        for (int bits : new int[] {8, 16, 32}) {
            refused(28, "sheet(0, " + bits + ", -1)", x -> x.sheet(0, bits, -1), Due.STATE);
            refused(28, "sheet(0, " + bits + ", min)", x -> x.sheet(0, bits, MIN), Due.STATE);
            refused(28, "sheet(0, " + bits + ", 25)", x -> x.sheet(0, bits, 25), Due.BEYOND);
            refused(28, "sheet(0, " + bits + ", max)", x -> x.sheet(0, bits, MAX), Due.BEYOND);
        }
        for (int i : new int[] {-1, 3, 23, 24, MIN, MAX}) {
            refused(29, "put(1, " + i + ", 8)", x -> x.put(1, i, 8), Due.BEYOND);
            refused(29, "put(3, " + i + ", 8), missing", x -> x.put(3, i, 8), Due.NONE);
        }
        refused(29, "put(2, 0, 8), of none", x -> x.put(2, 0, 8), Due.BEYOND);
        refused(30, "move(3, 0, 0, 0, 0), missing", x -> x.move(3, 0, 0, 0, 0), Due.NONE);
        refused(30, "move(0, 0, 3, 0, 0), missing", x -> x.move(0, 0, 3, 0, 0), Due.NONE);
        refused(30, "move(0, 0, 1, 0, 0), unlike", x -> x.move(0, 0, 1, 0, 0), Due.KIND);
        refused(30, "move(1, -1, 2, 0, 9), unlike", x -> x.move(1, -1, 2, 0, 9), Due.KIND);
        int[][] beyond = {{-1, 0, 1}, {0, -1, 1}, {0, 0, -1}, {0, 0, 5}, {4, 0, 1}, {0, 4, 1}, {1, 0, 4}, {0, 1, 4}, {5, 0, 0}, {0, 5, 0},
            {1, 0, MAX}, {MAX, 0, MAX}, {0, MAX, 1}, {MIN, 0, 1}, {0, MIN, 1}, {0, 0, MIN}};
        for (int[] row : beyond) {
            String call = "move(0, " + row[0] + ", 0, " + row[1] + ", " + row[2] + ")";
            refused(30, call, x -> x.move(0, row[0], 0, row[1], row[2]), Due.BEYOND);
        }
        refused(31, "prices(3), missing", x -> x.prices(3), Due.NONE);
        refused(32, "judge(3), missing", x -> x.judge(3), Due.NONE);
    }

    private static void images() {
        quay = RefusedTest::early;
        refused(34, "restore, no IMAGE", x -> x.restore(), Due.NONE);
        quay = RefusedTest::waiting;
        refused(35, "tell(0), 24 wait", x -> x.tell(0), Due.FULL);
        refused(35, "tell(max), 24 wait", x -> x.tell(MAX), Due.FULL);
        quay = RefusedTest::busy;
        for (int what : new int[] {-1, 10, MIN, MAX}) {
            refused(37, "count(" + what + ")", x -> x.count(what), Due.BEYOND);
        }
        for (int k : new int[] {-1, 0, 7, MIN, MAX}) {
            refused(38, "told(" + k + ")", x -> x.told(k), Due.BEYOND);
        }
    }
}
