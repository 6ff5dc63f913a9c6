/** Holds answers against those that are due, and prints the ones that are not. */
final class Due {
    static final int LOW = -1000000000;
    static final int BEYOND = LOW - 1;
    static final int NONE = LOW - 2;
    static final int STATE = LOW - 3;
    static final int FULL = LOW - 4;
    static final int KIND = LOW - 5;
    static final int PARTED = LOW - 6;

    private final String test;
    private int promise;
    private int asked;
    private int wrong;

    Due(String test) {
        this.test = test;
    }

    void promise(int number) {
        promise = number;
    }

    void is(String call, long got, long want) {
        asked++;
        if (got != want) {
            wrong++;
            System.out.println(test + ", promise " + promise + ": " + call + " answered " + got + ", due is " + want);
        }
    }

    /** Feeds a text to THE TAPE; what the last feed answers. */
    static int feed(PromisedFish fish, String text) {
        int last = 0;
        for (int i = 0; i < text.length(); i++) {
            last = fish.feed(text.charAt(i), 1);
        }
        return last;
    }

    /** Feeds a text and makes it that of a USE. */
    static int text(PromisedFish fish, int use, String text) {
        feed(fish, text);
        return fish.text(use);
    }

    /** A quay with BOATS (each told by its km). */
    static PromisedFish fleet(int... kms) {
        PromisedFish fish = new PromisedFish();
        for (int km : kms) {
            fish.boat(km);
        }
        return fish;
    }

    /** A part of a text, so many times. */
    static String times(String part, int n) {
        StringBuilder all = new StringBuilder();
        for (int i = 0; i < n; i++) {
            all.append(part);
        }
        return all.toString();
    }

    void end() {
        System.out.println(test + ": " + asked + " answers, " + wrong + " not as due");
        if (wrong != 0) {
            System.exit(1);
        }
    }
}
