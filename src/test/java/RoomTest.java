import java.lang.management.ManagementFactory;

/** All calls of one run live in one room: calls make no objects, and a new object is small. */
public final class RoomTest {
    private static final Due due = new Due("RoomTest");

    public static void main(String[] args) {
        com.sun.management.ThreadMXBean threads = (com.sun.management.ThreadMXBean) ManagementFactory.getThreadMXBean();
        long made = 0;
        long called = 0;
        for (int turn = 0; turn < 5; turn++) {
            long first = threads.getCurrentThreadAllocatedBytes();
            PromisedFish fish = new PromisedFish();
            long second = threads.getCurrentThreadAllocatedBytes();
            for (int i = 0; i < 10; i++) {
                everyCall(fish);
            }
            made = second - first;
            called = threads.getCurrentThreadAllocatedBytes() - second;
        }
        due.is("a new object is under 20000 bytes (" + made + ")", made < 20000 ? 1 : 0, 1);
        due.is("some 500 calls make under 1000 bytes (" + called + ")", called < 1000 ? 1 : 0, 1);
        due.end();
    }

    private static void everyCall(PromisedFish x) {
        for (int i = 0; i < 4; i++) {
            x.boat(13 * i);
            x.sell(i, 5);
            x.price(i, 7);
            x.sheet(i, 8, 4);
            x.put(i, 0, 4);
        }
        x.feed(0x6e2b73293173_2b63L, 3);
        x.text(0);
        x.feed(0x742b70L, 3);
        x.text(1);
        x.law(0, 1, 2, 3);
        x.move(0, 0, 1, 0, 2);
        x.prices(0);
        x.judge(0);
        x.fits(0, 0);
        x.safe(0);
        x.best(0, 1);
        x.agrees(0, 0);
        x.needs(0);
        x.soonest(0, 90);
        x.odds(0, 5, 0);
        x.mean(0, 0);
        x.voice(0, 2, 7);
        x.voice(1, 3, 7);
        x.body(0);
        x.image();
        x.tally();
        x.loose(30);
        x.restore();
        x.tell(0);
        x.check();
        x.untell(0);
        x.as(0, 0);
        x.become(0, 40);
        x.lose(0, 1);
        x.lose(0, 0);
        x.boatIs(0, 4);
        x.rises(4);
        x.seed(5);
        x.count(0);
        x.told(1);
    }
}
