/** Promises 28 to 32: SHEETS. */
public final class SheetsTest {
    private static final Due due = new Due("SheetsTest");

    public static void main(String[] args) {
        sheet();
        put();
        bits();
        move();
        moveOverItself();
        prices();
        judge();
        due.end();
    }

    /** Whether a SHEET has just n numbers: one more can't be put. */
    private static void hasJust(PromisedFish x, int sheet, int n) {
        due.is("a number behind the last", x.put(sheet, n, 0), Due.BEYOND);
        due.is("a number ahead of the first", x.put(sheet, -1, 0), Due.BEYOND);
        if (n > 0) {
            due.is("the last number", x.put(sheet, n - 1, 0), 1);
        }
    }

    private static void sheet() {
        due.promise(28);
        PromisedFish x = new PromisedFish();
        due.is("sheet(-1, 8, 3)", x.sheet(-1, 8, 3), Due.BEYOND);
        due.is("sheet(4, 8, 3)", x.sheet(4, 8, 3), Due.BEYOND);
        for (int bits : new int[] {-8, -1, 1, 7, 9, 15, 24, 31, 33, 64, Integer.MIN_VALUE}) {
            due.is("sheet(0, " + bits + ", 3)", x.sheet(0, bits, 3), Due.BEYOND);
        }
        due.is("sheet(0, 8, -1)", x.sheet(0, 8, -1), Due.STATE);
        due.is("sheet(0, 8, min)", x.sheet(0, 8, Integer.MIN_VALUE), Due.STATE);
        due.is("sheet(0, 8, 25)", x.sheet(0, 8, 25), Due.BEYOND);
        due.is("sheet(0, 8, max)", x.sheet(0, 8, Integer.MAX_VALUE), Due.BEYOND);
        due.is("sheet(4, 8, -1)", x.sheet(4, 8, -1), Due.BEYOND);
        due.is("sheet(0, 9, -1)", x.sheet(0, 9, -1), Due.BEYOND);
        due.is("it is missing yet", x.put(0, 0, 0), Due.NONE);
        int[] widths = {8, 16, 32};
        for (int bits : widths) {
            for (int n : new int[] {0, 1, 24}) {
                due.is("sheet(2, " + bits + ", " + n + ")", x.sheet(2, bits, n), 1);
                hasJust(x, 2, n);
            }
        }
        due.is("sheet(3, 16, 24)", x.sheet(3, 16, 24), 1);
        for (int i = 0; i < 24; i++) {
            x.put(3, i, 7);
        }
        due.is("sheet(3, 16, 4)", x.sheet(3, 16, 4), 1);
        due.is("all 0: PRICES", x.prices(3), 4);
        due.is("all 0: judge", x.judge(3), 4);
        due.is("price(3, 1)", x.price(3, 1), 0);
        due.is("sheet(3, 16, -1)", x.sheet(3, 16, -1), Due.STATE);
        hasJust(x, 3, 4);
        due.is("sheet(3, 0, -1)", x.sheet(3, 0, -1), 1);
        due.is("put, missing", x.put(3, 0, 0), Due.NONE);
        due.is("sheet(3, 0, 99)", x.sheet(3, 0, 99), 1);
        due.is("sheet(4, 0, 0)", x.sheet(4, 0, 0), Due.BEYOND);
        hasJust(x, 2, 24);
    }

    private static void put() {
        due.promise(29);
        PromisedFish x = new PromisedFish();
        due.is("put(-1, 0, 0)", x.put(-1, 0, 0), Due.BEYOND);
        due.is("put(4, 0, 0)", x.put(4, 0, 0), Due.BEYOND);
        due.is("put(0, 0, 0), missing", x.put(0, 0, 0), Due.NONE);
        due.is("put(0, -1, 0), missing", x.put(0, -1, 0), Due.NONE);
        x.sheet(0, 8, 2);
        due.is("put(0, 2, 0)", x.put(0, 2, 0), Due.BEYOND);
        due.is("put(0, -1, 0)", x.put(0, -1, 0), Due.BEYOND);
        due.is("put(0, max, 0)", x.put(0, Integer.MAX_VALUE, 0), Due.BEYOND);
        due.is("put(0, min, 0)", x.put(0, Integer.MIN_VALUE, 0), Due.BEYOND);
        due.is("put(0, 0, 4)", x.put(0, 0, 4), 1);
        due.is("put(0, 1, 5)", x.put(0, 1, 5), 1);
        x.prices(0);
        due.is("number 0", x.price(0, 0), 4);
        due.is("number 1", x.price(1, 0), 5);
        due.is("told(2)", x.told(2), 2);
    }

    private static void bits() {
        due.promise(29);
        int[][] rows = {
            // bits, v, the PRICE that it is (-1: none)
            {8, 5, 5}, {8, 256 + 5, 5}, {8, -256 + 5, 5}, {8, 65536 + 5, 5}, {8, -1, -1}, {8, 128, -1}, {8, 0x7fffff09, 9},
            {16, 5, 5}, {16, 256 + 5, -1}, {16, 65536 + 5, 5}, {16, -65536 + 5, 5}, {16, -1, -1}, {16, 32768, -1},
            {32, 5, 5}, {32, 256 + 5, -1}, {32, 65536 + 5, -1}, {32, -1, -1}, {32, Integer.MIN_VALUE, -1},
        };
        for (int[] row : rows) {
            PromisedFish x = new PromisedFish();
            x.sheet(1, row[0], 1);
            due.is("put of " + row[1] + " of " + row[0] + " bits", x.put(1, 0, row[1]), 1);
            due.is("prices", x.prices(1), row[2] < 0 ? 0 : 1);
            due.is("PRICE by " + row[1] + " of " + row[0] + " bits", x.price(0, 0), row[2] < 0 ? 2 : row[2]);
        }
        PromisedFish x = new PromisedFish();
        for (int i = 0; i < 4; i++) {
            x.boat(0);
        }
        Due.text(x, 0, "99");
        int[][] catches = {{8, 396, 0}, {16, 396, 1}, {32, 396, 1}, {16, 396 + 65536, 1}, {32, 396 + 65536, 0}, {8, 140, 0}};
        for (int[] row : catches) {
            x.sheet(0, row[0], 1);
            x.put(0, 0, row[1]);
            due.is("CATCH 396 by " + row[1] + " of " + row[0] + " bits", x.judge(0), row[2]);
        }
        Due.text(x, 0, "50");
        x.sheet(0, 8, 1);
        x.put(0, 0, 200);
        due.is("CATCH 200 by 200 of 8 bits", x.judge(0), 1);
        x.put(0, 0, 200 + 512);
        due.is("CATCH 200 by 712 of 8 bits", x.judge(0), 1);
    }

    /** What a SHEET's numbers from i on are, read as four PRICES. */
    private static void isPrices(PromisedFish x, int sheet, int... want) {
        due.is("prices(" + sheet + ")", x.prices(sheet), want.length);
        for (int f = 0; f < want.length; f++) {
            due.is("number " + f + " of SHEET " + sheet, x.price(f, 0), want[f]);
        }
    }

    private static PromisedFish rows() {
        PromisedFish x = new PromisedFish();
        x.sheet(0, 8, 4);
        x.sheet(1, 8, 4);
        for (int i = 0; i < 4; i++) {
            x.put(0, i, 1 + i);
            x.put(1, i, 5 + i);
        }
        return x;
    }

    private static void move() {
        due.promise(30);
        PromisedFish x = rows();
        due.is("move(-1, ..)", x.move(-1, 0, 0, 0, 1), Due.BEYOND);
        due.is("move(4, ..)", x.move(4, 0, 0, 0, 1), Due.BEYOND);
        due.is("move(0, 0, -1, ..)", x.move(0, 0, -1, 0, 1), Due.BEYOND);
        due.is("move(0, 0, 4, ..)", x.move(0, 0, 4, 0, 1), Due.BEYOND);
        due.is("move(2, 0, 4, ..)", x.move(2, 0, 4, 0, 1), Due.BEYOND);
        due.is("move(2, ..), missing", x.move(2, -1, 0, 0, 1), Due.NONE);
        due.is("move(0, 0, 2, ..), missing", x.move(0, 0, 2, -1, 1), Due.NONE);
        due.is("move(2, 0, 2, ..), missing", x.move(2, 0, 2, 0, 0), Due.NONE);
        x.sheet(2, 16, 4);
        due.is("move(0, 0, 2, ..), unlike", x.move(0, 0, 2, 0, 1), Due.KIND);
        due.is("move(2, -1, 0, ..), unlike", x.move(2, -1, 0, 0, -1), Due.KIND);
        x.sheet(3, 32, 4);
        due.is("move(2, 0, 3, ..), unlike", x.move(2, 0, 3, 0, 0), Due.KIND);
        int max = Integer.MAX_VALUE;
        int[][] wrong = {{-1, 0, 1}, {0, -1, 1}, {0, 0, -1}, {4, 0, 1}, {0, 4, 1}, {3, 0, 2}, {0, 3, 2}, {0, 0, 5}, {5, 0, 0}, {0, 5, 0},
            {max, 0, 1}, {0, max, 1}, {1, 0, max}, {0, 1, max}, {max, max, max}, {Integer.MIN_VALUE, 0, 1}, {0, 0, Integer.MIN_VALUE}};
        for (int[] row : wrong) {
            due.is("move(0, " + row[0] + ", 1, " + row[1] + ", " + row[2] + ")", x.move(0, row[0], 1, row[1], row[2]), Due.BEYOND);
        }
        isPrices(x, 0, 1, 2, 3, 4);
        isPrices(x, 1, 5, 6, 7, 8);
        due.is("move(0, 1, 1, 2, 2)", x.move(0, 1, 1, 2, 2), 2);
        isPrices(x, 1, 5, 6, 2, 3);
        isPrices(x, 0, 1, 2, 3, 4);
        due.is("move(0, 4, 1, 4, 0)", x.move(0, 4, 1, 4, 0), 0);
        due.is("move(1, 0, 0, 0, 4)", x.move(1, 0, 0, 0, 4), 4);
        isPrices(x, 0, 5, 6, 2, 3);
        x.sheet(1, 8, 2);
        due.is("move(0, 2, 1, 0, 2), to a shorter one", x.move(0, 2, 1, 0, 2), 2);
        isPrices(x, 1, 2, 3);
        due.is("move(0, 1, 1, 0, 3), to a shorter one", x.move(0, 1, 1, 0, 3), Due.BEYOND);
    }

    private static void moveOverItself() {
        due.promise(30);
        PromisedFish x = rows();
        due.is("move(0, 0, 0, 1, 3)", x.move(0, 0, 0, 1, 3), 3);
        isPrices(x, 0, 1, 1, 2, 3);
        due.is("move(1, 1, 1, 0, 3)", x.move(1, 1, 1, 0, 3), 3);
        isPrices(x, 1, 6, 7, 8, 8);
        due.is("move(1, 0, 1, 0, 4)", x.move(1, 0, 1, 0, 4), 4);
        isPrices(x, 1, 6, 7, 8, 8);
    }

    private static void prices() {
        due.promise(31);
        PromisedFish x = new PromisedFish();
        due.is("prices(-1)", x.prices(-1), Due.BEYOND);
        due.is("prices(4)", x.prices(4), Due.BEYOND);
        due.is("prices(0), missing", x.prices(0), Due.NONE);
        x.sheet(0, 32, 24);
        for (int i = 0; i < 24; i++) {
            x.put(0, i, 9);
        }
        isPrices(x, 0, 9, 9, 9, 9);
        x.put(0, 2, 10);
        due.is("prices(0), the third is 10", x.prices(0), 2);
        due.is("price(1, 2)", x.price(1, 2), 9);
        due.is("the third stays", x.price(2, 2), 0);
        due.is("what is behind stays", x.price(3, 2), 0);
        x.put(0, 0, -1);
        due.is("prices(0), the first is -1", x.prices(0), 0);
        due.is("told(1)", x.told(1), 2);
        x.sheet(0, 32, 0);
        due.is("prices(0) of none", x.prices(0), 0);
        due.is("price(1, 2)", x.price(1, 2), 2);
    }

    private static void judge() {
        due.promise(32);
        PromisedFish x = new PromisedFish();
        due.is("judge(-1)", x.judge(-1), Due.BEYOND);
        due.is("judge(4)", x.judge(4), Due.BEYOND);
        due.is("judge(3), missing", x.judge(3), Due.NONE);
        x.boat(60);
        x.boat(5);
        x.rises(2);
        x.sheet(3, 16, 6);
        int[] right = {24, 23, 22, 21};
        for (int f = 0; f < 4; f++) {
            due.is("judge(3)", x.judge(3), f);
            x.put(3, f, right[f]);
        }
        due.is("judge(3), all FISH", x.judge(3), 4);
        x.put(3, 1, 22);
        due.is("judge(3), from the first on", x.judge(3), 1);
        x.put(3, 0, 0);
        due.is("judge(3)", x.judge(3), 0);
        x.put(3, 0, 24);
        x.rises(3);
        due.is("judge(3) by other WAVES", x.judge(3), 0);
        Due.text(x, 0, "n");
        x.sell(0, 12);
        due.is("judge(3) as SOLD is", x.judge(3), 1);
        x.sheet(3, 8, 0);
        due.is("judge(3) of none", x.judge(3), 0);
    }
}
