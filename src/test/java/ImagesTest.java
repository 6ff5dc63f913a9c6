/** Promises 33 to 38: images, numbers that wait, and what is told. */
public final class ImagesTest {
    private static final Due due = new Due("ImagesTest");

    public static void main(String[] args) {
        image();
        imageHasAll();
        imageHasNot();
        tell();
        check();
        count();
        told();
        due.end();
    }

    private static void image() {
        due.promise(34);
        PromisedFish x = new PromisedFish();
        due.is("restore, no IMAGE", x.restore(), Due.NONE);
        due.is("told(2)", x.told(2), 1);
        due.promise(33);
        due.is("image", x.image(), 1);
        x.tally();
        x.tally();
        due.is("image", x.image(), 2);
        x.tally();
        due.promise(34);
        due.is("restore has the latest IMAGE", x.restore(), 2);
        x.tally();
        x.tally();
        due.is("the IMAGE stays", x.restore(), 2);
        due.is("DAY", x.count(2), 2);
        due.promise(33);
        due.is("how often is not of the IMAGE", x.image(), 3);
    }

    private static PromisedFish busy() {
        PromisedFish x = new PromisedFish();
        x.boat(42);
        x.boat(67);
        x.lose(1, 1);
        Due.text(x, 0, "c+3");
        Due.text(x, 1, "p+1");
        x.sell(1, 40);
        x.tally();
        x.rises(4);
        x.price(2, 7);
        x.sell(2, 11);
        x.seed(-9);
        x.feed('c', 1);
        x.tell(0);
        x.tell(0);
        x.tell(11);
        return x;
    }

    private static void isBusy(PromisedFish x) {
        int[] counts = {2, 4, 1, 40 * 3 - 4 * 25 - 4 + 11 * 8, 25, 18, 1, 3, 0, -9};
        for (int what = 0; what < 10; what++) {
            if (what != 8) {
                due.is("count(" + what + ")", x.count(what), counts[what]);
            }
        }
        due.is("KIND", x.boatIs(0, 0), 4);
        due.is("m", x.boatIs(0, 1), 2);
        due.is("LOST", x.boatIs(0, 2), 0);
        due.is("KIND", x.boatIs(1, 0), 6);
        due.is("m", x.boatIs(1, 1), 7);
        due.is("LOST", x.boatIs(1, 2), 1);
        due.is("LANDS has a TEXT", x.law(0, 5, 0, 0), 8);
        due.is("COINS has a TEXT", x.law(1, 5, 0, 0), 6);
        due.is("check", x.check(), 0);
        due.is("THE TAPE", x.text(0), 1);
        due.is("LANDS by THE TAPE", x.law(0, 5, 0, 0), 5);
        due.is("PRICE", x.price(2, 7), 7);
        due.is("PRICE", x.price(3, 2), 2);
    }

    private static void imageHasAll() {
        due.promise(34);
        PromisedFish x = busy();
        due.is("image", x.image(), 1);
        isBusy(x);
        due.is("restore", x.restore(), 1);
        isBusy(x);
        x.boat(33);
        x.become(0, 11);
        x.lose(0, 1);
        x.lose(1, 0);
        x.untell(0);
        Due.text(x, 1, "99");
        x.sell(0, 99);
        x.loose(20);
        x.rises(9);
        x.feed(0, 8);
        x.price(3, 9);
        x.price(2, 0);
        for (int i = 0; i < 9; i++) {
            x.tell(5);
        }
        due.is("restore", x.restore(), 1);
        isBusy(x);
        due.is("restore", x.restore(), 1);
        for (int i = 1; i < 6; i++) {
            x.boat(i);
        }
        due.is("boats that were not there", x.restore(), 1);
        due.is("boat(9)", x.boat(9), 2);
        due.is("that is not LOST", x.boatIs(2, 2), 0);
        due.promise(33);
        PromisedFish none = new PromisedFish();
        none.image();
        Due.text(none, 0, "5");
        Due.text(none, 1, "5");
        none.restore();
        due.is("an IMAGE without TEXTS: untell(0)", none.untell(0), 0);
        due.is("an IMAGE without TEXTS: untell(1)", none.untell(1), 0);
    }

    private static void imageHasNot() {
        due.promise(33);
        PromisedFish x = new PromisedFish();
        x.boat(5);
        x.sheet(0, 8, 1);
        x.put(0, 0, 3);
        x.voice(0, 1, 1);
        x.boat(-1);
        x.image();
        x.put(0, 0, 7);
        x.sheet(1, 32, 24);
        x.voice(0, 2, 1);
        x.boat(-1);
        x.as(0, 3);
        due.is("restore", x.restore(), 0);
        due.is("SHEETS stay: prices", x.prices(0), 1);
        due.is("SHEETS stay: PRICE", x.price(0, 2), 7);
        due.is("SHEETS stay: put", x.put(1, 23, 0), 1);
        due.is("THE TRACE stays", x.count(8), 3);
        due.is("THE TRACE stays", x.body(0), 12);
        due.is("told(1) stays", x.told(1), 2);
        due.is("told(5) stays", x.told(5), 1);
        due.is("how often stays", x.image(), 2);
    }

    private static void tell() {
        due.promise(35);
        PromisedFish x = new PromisedFish();
        for (int i = 1; i <= 24; i++) {
            due.is("tell", x.tell(i * -12345678), i);
        }
        due.is("tell, 24 wait", x.tell(0), Due.FULL);
        due.is("count(7)", x.count(7), 24);
        due.is("told(4)", x.told(4), 1);
        x.check();
        due.is("tell", x.tell(Integer.MIN_VALUE), 1);
    }

    private static void check() {
        due.promise(36);
        PromisedFish x = new PromisedFish();
        due.is("check, none wait", x.check(), 0);
        int[] sold = {7, 0, 99, 1};
        for (int f = 0; f < 4; f++) {
            x.sell(f, sold[f]);
        }
        for (int many = 1; many <= 24; many++) {
            for (int i = 0; i < many; i++) {
                x.tell(i < 4 ? sold[i] : 0);
            }
            due.is("check of " + many, x.check(), many > 4 ? 5 : 0);
            due.is("none wait then", x.count(7), 0);
        }
        for (int wrong = 0; wrong < 4; wrong++) {
            for (int i = 0; i < 4; i++) {
                x.tell(i < wrong ? sold[i] : sold[i] + 1);
            }
            due.is("check, wrong from " + wrong + " on", x.check(), 1 + wrong);
            due.is("none wait then", x.count(7), 0);
        }
        due.is("check", x.check(), 0);
    }

    private static void count() {
        due.promise(37);
        PromisedFish x = new PromisedFish();
        due.is("count(-1)", x.count(-1), Due.BEYOND);
        due.is("count(10)", x.count(10), Due.BEYOND);
        due.is("count(max)", x.count(Integer.MAX_VALUE), Due.BEYOND);
        due.is("told(1)", x.told(1), 3);
        x.boat(0);
        x.boat(0);
        x.boat(0);
        x.sell(0, 50);
        x.tally();
        x.tally();
        x.rises(7);
        x.tell(3);
        x.tell(3);
        x.tell(3);
        x.tell(3);
        x.feed(0, 6);
        x.feed(0, 5);
        x.voice(0, 2, 3);
        x.seed(Due.STATE);
        int[] all = {3, 7, 2, 100 - 35 * 4 - 6, 35, 19, 11, 4, 3, Due.STATE};
        for (int what = 0; what < 10; what++) {
            due.is("count(" + what + ")", x.count(what), all[what]);
        }
        due.is("z is no ERROR", x.told(3), 0);
    }

    private static void told() {
        due.promise(38);
        PromisedFish x = new PromisedFish();
        due.is("told(0)", x.told(0), Due.BEYOND);
        due.is("told(7)", x.told(7), Due.BEYOND);
        due.is("told(-1)", x.told(-1), Due.BEYOND);
        due.is("told(min)", x.told(Integer.MIN_VALUE), Due.BEYOND);
        due.is("told(1), these counted, too", x.told(1), 4);
        x.body(0);
        x.restore();
        due.is("told(2)", x.told(2), 2);
        x.sheet(0, 8, -1);
        due.is("told(3)", x.told(3), 1);
        x.feed(0, 8);
        for (int i = 0; i < 10; i++) {
            x.feed(0, 8);
        }
        due.is("told(4)", x.told(4), 4);
        x.boat(3);
        for (int kind = 1; kind < 7; kind++) {
            x.as(0, kind);
        }
        due.is("told(5)", x.told(5), 6);
        x.become(0, 0);
        for (int i = 0; i < 5; i++) {
            x.voice(0, 3, i);
        }
        due.is("told(6)", x.told(6), 5);
        due.is("told(1)", x.told(1), 4);
        due.is("told(2)", x.told(2), 2);
        due.is("told(3)", x.told(3), 1);
        due.is("told(4)", x.told(4), 4);
        due.is("told(5)", x.told(5), 6);
    }
}
