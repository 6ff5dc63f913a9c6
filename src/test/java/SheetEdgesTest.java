/** The edges of promises 28 to 36: rows of none, of 24 and of 25, more numbers than FISH, a full IMAGE. */
public final class SheetEdgesTest {
    private static final Due due = new Due("SheetEdgesTest");
    private static final int MIN = Integer.MIN_VALUE;

    public static void main(String[] args) {
        fullSheets();
        fourFishOfASheet();
        fullImage();
        due.end();
    }

    private static void fullSheets() {
        due.promise(30);
        PromisedFish x = new PromisedFish();
        x.sheet(0, 8, 24);
        x.sheet(1, 8, 24);
        for (int i = 0; i < 24; i++) {
            due.is("put(0, " + i + ", ..)", x.put(0, i, i % 10), 1);
        }
        due.is("put(0, 24, ..)", x.put(0, 24, 1), Due.BEYOND);
        due.is("all 24", x.move(0, 0, 1, 0, 24), 24);
        due.is("25", x.move(0, 0, 1, 0, 25), Due.BEYOND);
        due.is("all 24 from 1 on", x.move(0, 1, 1, 0, 24), Due.BEYOND);
        due.is("all 24 to 1 on", x.move(0, 0, 1, 1, 24), Due.BEYOND);
        due.is("none behind the last", x.move(0, 24, 1, 24, 0), 0);
        due.is("none beyond that", x.move(0, 25, 1, 0, 0), Due.BEYOND);
        due.is("none to beyond that", x.move(0, 0, 1, 25, 0), Due.BEYOND);
        numbersAre(x, 1, 0, 24, 0);
        due.is("23 on by one, over itself", x.move(1, 0, 1, 1, 23), 23);
        numbersAre(x, 1, 1, 24, -1);
        due.is("23 back by one, over itself", x.move(1, 1, 1, 0, 23), 23);
        numbersAre(x, 1, 0, 23, 0);
        numbersAre(x, 1, 23, 24, -1);
        due.is("the last one alone", x.move(0, 23, 1, 0, 1), 1);
        due.is("to the last one", x.move(0, 9, 1, 23, 1), 1);
        x.sheet(2, 8, 1);
        due.is("move(1, 0, 2, 0, 1)", x.move(1, 0, 2, 0, 1), 1);
        due.is("prices(2)", x.prices(2), 1);
        due.is("it is the last one", x.price(0, 0), 23 % 10);
        due.is("move(1, 23, 2, 0, 1)", x.move(1, 23, 2, 0, 1), 1);
        due.is("prices(2)", x.prices(2), 1);
        due.is("it is number 9", x.price(0, 0), 9);
        x.sheet(1, 8, 0);
        due.is("none of none", x.move(1, 0, 1, 0, 0), 0);
        due.is("one of none", x.move(1, 0, 2, 0, 1), Due.BEYOND);
        due.is("one to none", x.move(2, 0, 1, 0, 1), Due.BEYOND);
    }

    /** Numbers of a SHEET, from one to ahead of another, are their places and so much more (of it the rest by 10). */
    private static void numbersAre(PromisedFish x, int sheet, int from, int to, int more) {
        x.sheet(3, 8, 1);
        for (int i = from; i < to; i++) {
            due.is("move of number " + i + " of SHEET " + sheet, x.move(sheet, i, 3, 0, 1), 1);
            due.is("prices(3)", x.prices(3), 1);
            due.is("number " + i + " of SHEET " + sheet, x.price(0, 0), (i + more) % 10);
        }
    }

    private static void fourFishOfASheet() {
        PromisedFish x = new PromisedFish();
        for (int bits : new int[] {8, 16, 32}) {
            for (int n = 0; n <= 24; n++) {
                x.sheet(0, bits, n);
                due.promise(31);
                due.is("prices(0) of " + n + " zeros", x.prices(0), Math.min(n, 4));
                due.promise(32);
                due.is("judge(0) of " + n + " zeros", x.judge(0), Math.min(n, 4));
            }
            for (int place = 0; place < 6; place++) {
                x.sheet(0, bits, 6);
                for (int wrong : new int[] {10, -1, MIN + 10, 9}) {
                    x.put(0, place, wrong);
                    due.promise(31);
                    due.is(wrong + " at " + place, x.prices(0), wrong == 9 ? 4 : Math.min(place, 4));
                    due.promise(32);
                    due.is("judge, " + wrong + " at " + place, x.judge(0), Math.min(place, 4));
                }
            }
        }
        PromisedFish six = Due.fleet(0, 0, 0, 0, 0, 0);
        Due.text(six, 0, "99");
        due.promise(32);
        six.sheet(0, 16, 4);
        six.put(0, 0, 594);
        due.is("judge, the most that there is", six.judge(0), 1);
        six.put(0, 0, 593);
        due.is("judge, 1 less", six.judge(0), 0);
    }

    private static PromisedFish crammed() {
        PromisedFish x = Due.fleet(0, 11, 22, 33, 44, 69);
        for (int boat = 0; boat < 6; boat++) {
            x.lose(boat, boat % 2);
        }
        Due.text(x, 0, "!c" + Due.times("+n", 29));
        Due.text(x, 1, "!p" + Due.times("+t", 29));
        x.rises(9);
        for (int fish = 0; fish < 4; fish++) {
            x.price(fish, 9 - fish);
            x.sell(fish, 99 - fish);
            x.tell(99 - fish);
        }
        for (int i = 4; i < 24; i++) {
            x.tell(i);
        }
        Due.feed(x, Due.times("c+", 29) + "17");
        return x;
    }

    private static void isCrammed(PromisedFish x) {
        due.is("BOATS", x.count(0), 6);
        for (int boat = 0; boat < 6; boat++) {
            due.is("LOST", x.boatIs(boat, 2), boat % 2);
            due.is("KIND", x.boatIs(boat, 0), boat == 5 ? 6 : boat);
            due.is("m", x.boatIs(boat, 1), boat == 5 ? 9 : boat);
        }
        due.is("a seventh BOAT", x.boat(0), Due.FULL);
        due.is("one more byte", x.feed('1', 1), Due.FULL);
        due.is("one more number", x.tell(0), Due.FULL);
        due.is("law(0, ..)", x.law(0, 0, 0, 2), 59);
        due.is("law(1, ..)", x.law(1, 0, 3, 0), 88);
        for (int fish = 0; fish < 4; fish++) {
            due.is("price", x.price(fish, 0), 9 - fish);
            due.is("one too many of FISH " + fish, x.sell(fish, 1 + fish), Due.STATE);
        }
        due.is("check: the first four are SOLD", x.check(), 5);
        due.is("THE TAPE", x.text(0), 1);
        due.is("law(0, ..)", x.law(0, 2, 0, 0), 75);
    }

    private static void fullImage() {
        due.promise(33);
        PromisedFish x = crammed();
        due.is("image", x.image(), 1);
        isCrammed(x);
        due.promise(34);
        x.tally();
        due.is("restore", x.restore(), 0);
        isCrammed(x);
        for (int boat = 0; boat < 6; boat++) {
            x.become(boat, 37);
            x.lose(boat, 1 - boat % 2);
        }
        Due.feed(x, Due.times("9", 60));
        for (int i = 0; i < 24; i++) {
            x.tell(-i);
        }
        due.is("restore", x.restore(), 0);
        isCrammed(x);
        PromisedFish none = new PromisedFish();
        none.image();
        none.boat(33);
        none.sell(3, 99);
        none.feed(-1L, 8);
        none.tell(4);
        none.seed(0);
        due.is("restore of a new object", none.restore(), 0);
        int[] first = {0, 0, 0, 0, 0, 20, 0, 0, 0, 1};
        for (int what = 0; what < 10; what++) {
            due.is("count(" + what + ")", none.count(what), first[what]);
        }
        due.is("sell(3, 99)", none.sell(3, 99), 198);
    }
}
