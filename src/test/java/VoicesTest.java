/** Promises 26 and 27: VOICES, BODIES and THE TRACE. */
public final class VoicesTest {
    private static final Due due = new Due("VoicesTest");
    private static final int CALLS = 0;
    private static final int HAULS = 1;
    private static final int LETS = 2;
    private static final int PARTS = 3;

    public static void main(String[] args) {
        wrong();
        everyKind();
        wraps();
        parted();
        traceOfParted();
        trace();
        due.end();
    }

    private static void wrong() {
        due.promise(26);
        PromisedFish x = new PromisedFish();
        due.is("voice(0, 0, 0), none there", x.voice(0, 0, 0), Due.BEYOND);
        x.boat(0);
        due.is("voice(-1, 0, 0)", x.voice(-1, 0, 0), Due.BEYOND);
        due.is("voice(1, 0, 0)", x.voice(1, 0, 0), Due.BEYOND);
        due.is("voice(0, -1, 0)", x.voice(0, -1, 0), Due.BEYOND);
        due.is("voice(0, 4, 0)", x.voice(0, 4, 0), Due.BEYOND);
        due.is("told(1)", x.told(1), 5);
        due.is("count(8)", x.count(8), 0);
    }

    /** BOAT 1 (k is 1), x and what is due, then THE TRACE. */
    private static void heard(int km, int voice, int x, int want, int... bodies) {
        PromisedFish fish = new PromisedFish();
        fish.boat(69);
        fish.boat(km);
        String call = "voice(1, " + voice + ", " + x + ") of km " + km;
        due.promise(26);
        due.is(call, fish.voice(1, voice, x), want);
        due.promise(27);
        due.is("count(8) after " + call, fish.count(8), bodies.length);
        for (int i = 0; i < bodies.length; i++) {
            due.is("body(" + i + ") after " + call, fish.body(i), bodies[i]);
        }
        due.is("body behind the last after " + call, fish.body(bodies.length), Due.NONE);
    }

    private static void everyKind() {
        heard(5, CALLS, 7, 8, 10);
        heard(5, HAULS, 7, 16, 11, 10);
        heard(5, LETS, 7, 11, 12, 11, 10);
        heard(5, PARTS, 7, 1, 13);
        heard(5, PARTS, -7, -1, 13);
        heard(0, PARTS, 7, -7, 13);

        heard(15, CALLS, 7, 4, 20, 10);
        heard(15, HAULS, 7, 8, 11, 20, 10);
        heard(15, LETS, 7, 3, 12, 11, 20, 10);
        // 9 / 4 and twice (1 + 1 - 4)
        heard(15, PARTS, 9, -2, 21, 13, 11, 20, 10);

        heard(25, CALLS, 7, 8, 10);
        heard(25, HAULS, 7, -16, 30, 11, 10);
        heard(25, LETS, 7, -21, 12, 30, 11, 10);
        heard(25, PARTS, 9, 2, 13);

        heard(35, CALLS, 7, 8, 10);
        heard(35, HAULS, 7, 16, 11, 10);
        heard(35, LETS, 7, 3, 40, 12, 11, 10);
        heard(35, LETS, -7, -9, 40, 12, 11, 10);
        heard(35, PARTS, 9, 2, 13);

        heard(45, CALLS, 7, 12, 50, 20, 10);
        heard(45, HAULS, 7, 24, 11, 50, 20, 10);
        heard(45, LETS, 7, 18, 51, 12, 11, 50, 20, 10);
        heard(45, PARTS, 9, 2 - 12, 21, 13, 11, 50, 20, 10);

        heard(55, CALLS, 7, 8, 10);
        heard(55, HAULS, 7, -18, 60, 30, 11, 10);
        heard(55, LETS, 7, -23, 12, 60, 30, 11, 10);
        heard(55, PARTS, 9, 2, 13);

        heard(65, CALLS, 7, 9, 70);
        heard(65, HAULS, 7, 23, 71, 11, 70);
        heard(65, LETS, 7, 18, 12, 71, 11, 70);
        heard(65, PARTS, 9, 2, 13);
    }

    private static void wraps() {
        int max = Integer.MAX_VALUE;
        int min = Integer.MIN_VALUE;
        heard(5, CALLS, max, min, 10);
        heard(5, HAULS, max, 0, 11, 10);
        heard(5, LETS, 1 << 30, min + 2 - 5, 12, 11, 10);
        heard(0, PARTS, min, min, 13);
        heard(25, HAULS, (1 << 30) - 1, min, 30, 11, 10);
        heard(55, HAULS, max, -2 * (min + 1), 60, 30, 11, 10);
        due.promise(26);
        PromisedFish x = new PromisedFish();
        x.boat(5);
        due.is("an answer that looks like an ERROR", x.voice(0, CALLS, Due.NONE), Due.NONE);
        due.is("told(2)", x.told(2), 0);
    }

    private static void parted() {
        due.promise(26);
        PromisedFish x = new PromisedFish();
        x.boat(0);
        x.boat(11);
        x.boat(2);
        due.is("voice(0, 2, 4)", x.voice(0, LETS, 4), 8);
        due.is("voice(0, 3, 4)", x.voice(0, PARTS, 4), Due.PARTED);
        due.is("voice(1, 3, 4): all that it answers", x.voice(1, PARTS, 4), Due.PARTED);
        due.is("voice(2, 3, 0)", x.voice(2, PARTS, 0), Due.PARTED);
        due.is("told(6)", x.told(6), 3);
        x.become(0, 1);
        due.is("voice(0, 3, 4)", x.voice(0, PARTS, 4), 4);
        due.is("voice(1, 0, 4)", x.voice(1, CALLS, 4), 1);
        due.is("told(6)", x.told(6), 3);
    }

    /** The BODIES that began before it parted, and none of those that an answer would have needed behind it. */
    private static void traceOfParted() {
        heard(1, PARTS, 7, Due.PARTED, 13);
        heard(11, PARTS, 7, Due.PARTED, 21, 13);
        heard(21, PARTS, 7, Due.PARTED, 13);
        heard(31, PARTS, Integer.MIN_VALUE, Due.PARTED, 13);
        heard(41, PARTS, 7, Due.PARTED, 21, 13);
        heard(51, PARTS, 0, Due.PARTED, 13);
        heard(61, PARTS, 7, Due.PARTED, 13);
        due.promise(27);
        PromisedFish x = new PromisedFish();
        x.boat(10);
        x.voice(0, LETS, 4);
        due.is("count(8)", x.count(8), 4);
        due.is("voice(0, 3, 4)", x.voice(0, PARTS, 4), Due.PARTED);
        due.is("count(8) behind one that parted", x.count(8), 2);
        due.is("body(2), of the one ahead", x.body(2), Due.NONE);
        due.is("voice(0, 4, 4)", x.voice(0, 4, 4), Due.BEYOND);
        due.is("BEYOND leaves THE TRACE", x.count(8), 2);
        due.is("BEYOND leaves THE TRACE: body(1)", x.body(1), 13);
        x.voice(0, CALLS, 4);
        due.is("count(8) of the next one", x.count(8), 2);
        due.is("body(0)", x.body(0), 20);
        due.is("body(1)", x.body(1), 10);
    }

    private static void trace() {
        due.promise(27);
        PromisedFish x = new PromisedFish();
        due.is("body(0)", x.body(0), Due.NONE);
        x.boat(45);
        x.voice(0, LETS, 0);
        due.is("count(8)", x.count(8), 6);
        due.is("body(-1)", x.body(-1), Due.NONE);
        due.is("body(min)", x.body(Integer.MIN_VALUE), Due.NONE);
        due.is("body(max)", x.body(Integer.MAX_VALUE), Due.NONE);
        due.is("body(5)", x.body(5), 10);
        due.is("body(6)", x.body(6), Due.NONE);
        x.voice(0, LETS, Integer.MIN_VALUE);
        x.voice(4, LETS, 0);
        due.is("BEYOND leaves THE TRACE", x.count(8), 6);
        x.image();
        x.voice(0, CALLS, 0);
        due.is("THE TRACE is of the latest one", x.count(8), 3);
        due.is("body(0)", x.body(0), 50);
        due.is("body(3)", x.body(3), Due.NONE);
        x.restore();
        due.is("an IMAGE has no TRACE", x.count(8), 3);
    }
}
