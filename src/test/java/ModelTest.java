import java.util.Random;

/** Promises 1 to 38: random runs of calls, the class against the model. */
public final class ModelTest {
    private static final int RUNS = 400;
    private static final int CALLS = 512;
    private static final Due due = new Due("ModelTest");
    private static final int[] ODD_ONES = {-1, -2, 100, 60, 1000, Integer.MIN_VALUE, Integer.MAX_VALUE, 1 << 16, -1 << 8};

    private static Random draws;
    private static PromisedFish fish;
    private static Model model;
    private static String name;

    public static void main(String[] args) {
        for (int run = 0; run < RUNS; run++) {
            draws = new Random(run);
            fish = new PromisedFish();
            model = new Model();
            for (int i = draws.nextInt(8); i > 0; i--) {
                int km = draws.nextInt(70);
                name = "boat(" + km + ")";
                same(fish.boat(km), model.boat(km));
            }
            for (int call = 0; call < CALLS; call++) {
                due.promise(0);
                act(draws.nextInt(62));
            }
            for (int what = 0; what < 10; what++) {
                name = "run " + run + ", at its end count(" + what + ")";
                same(fish.count(what), model.count(what));
            }
        }
        due.end();
    }

    private static void same(int got, int want) {
        due.is(name, got, want);
    }

    /** A number from 0 to most, at times the one behind these, or one far from them. */
    private static int any(int most) {
        int kind = draws.nextInt(40);
        return kind == 0 ? most + 1 : kind == 1 ? ODD_ONES[draws.nextInt(ODD_ONES.length)] : draws.nextInt(most + 1);
    }

    private static int x() {
        return draws.nextInt(3) == 0 ? draws.nextInt() : draws.nextInt(200) - 100;
    }

    private static void act(int which) {
        int a = any(5);
        int f = any(3);
        int bit = any(1);
        int n = any(99);
        int s = any(3);
        int v = x();
        name = "call " + which + " with boat " + a + ", fish " + f + ", bit " + bit + ", n " + n + ", sheet " + s + ", v " + v;
        switch (which) {
            case 0, 1 -> kindOf(a, any(69));
            case 2, 3, 4 -> {
                int what = any(7);
                name += ", what " + what;
                same(fish.boatIs(a, what), model.boatIs(a, what));
            }
            case 5 -> {
                int kind = any(6);
                same(fish.as(a, kind), model.as(a, kind));
            }
            case 6 -> same(fish.lose(a, bit), model.lose(a, bit));
            case 7, 8, 9 -> {
                int waves = any(9);
                same(fish.rises(waves), model.rises(waves));
            }
            case 10, 11 -> {
                int price = any(9);
                same(fish.price(f, price), model.price(f, price));
            }
            case 12, 13, 14, 15 -> {
                int few = draws.nextBoolean() ? any(20) : n;
                same(fish.sell(f, few), model.sell(f, few));
            }
            case 16, 17, 18, 19 -> feedText(bit);
            case 20 -> {
                long word = draws.nextLong();
                int many = any(8);
                same(fish.feed(word, many), model.feed(word, many));
            }
            case 21 -> same(fish.untell(bit), model.untell(bit));
            case 22, 23, 24 -> {
                int b = x();
                int c = x();
                same(fish.law(bit, v, b, c), model.law(bit, v, b, c));
            }
            case 25 -> same(fish.tally(), model.tally());
            case 26 -> {
                int days = any(30);
                same(fish.loose(days), model.loose(days));
            }
            case 27 -> same(fish.seed(v), model.seed(v));
            default -> actOn(which, a, f, bit, n, s, v);
        }
    }

    private static void kindOf(int boat, int km) {
        if (draws.nextInt(3) == 0) {
            same(fish.boat(km), model.boat(km));
        } else {
            same(fish.become(boat, km), model.become(boat, km));
        }
    }

    private static void actOn(int which, int a, int f, int bit, int n, int s, int v) {
        switch (which) {
            case 28, 29 -> same(fish.catches(f), model.catches(f));
            case 30 -> same(fish.safe(f), model.safe(f));
            case 31 -> same(fish.best(f, bit), model.best(f, bit));
            case 32, 33 -> same(fish.agrees(f, bit), model.agrees(f, bit));
            case 34, 35 -> same(fish.needs(bit), model.needs(bit));
            case 36, 37 -> same(fish.soonest(f, n), model.soonest(f, n));
            case 38 -> same(fish.odds(f, n, bit), model.odds(f, n, bit));
            case 39 -> same(fish.mean(f, bit), model.mean(f, bit));
            case 40, 41 -> same(fish.fits(s, bit), model.fits(s, bit));
            case 42, 43, 44 -> {
                int voice = any(3);
                name += ", voice " + voice;
                same(fish.voice(a, voice, v), model.voice(a, voice, v));
            }
            case 45, 46, 47 -> {
                int i = any(6);
                same(fish.body(i), model.body(i));
            }
            case 48 -> {
                int bits = draws.nextInt(12) == 0 ? any(33) : 8 * draws.nextInt(3) + (draws.nextInt(3) == 0 ? 16 : 0);
                int many = draws.nextBoolean() ? any(5) : any(26);
                same(fish.sheet(s, bits, many), model.sheet(s, bits, many));
            }
            case 49, 50, 51, 52 -> putOne(s, any(4));
            case 53 -> {
                int other = any(3);
                int i = any(5);
                int j = any(5);
                int many = any(5);
                same(fish.move(s, i, other, j, many), model.move(s, i, other, j, many));
            }
            case 54 -> same(fish.prices(s), model.prices(s));
            case 55 -> same(fish.judge(s), model.judge(s));
            case 56 -> same(fish.image(), model.image());
            case 57 -> {
                if (draws.nextInt(3) == 0) {
                    same(fish.restore(), model.restore());
                }
            }
            default -> tellOrAsk(which);
        }
    }

    /** Mostly what would be right or nearly so, so that judge and fits have something to find. */
    private static void putOne(int sheet, int i) {
        int v = x();
        int kind = draws.nextInt(4);
        if (kind == 0) {
            v = draws.nextInt(11);
        } else if (kind < 3 && i >= 0 && i < 4) {
            v = model.caught(i, model.now.sold[i], kind == 1 ? model.now.waves : draws.nextInt(10), model.now.day);
        }
        same(fish.put(sheet, i, v), model.put(sheet, i, v));
    }

    private static void tellOrAsk(int which) {
        switch (which) {
            case 58 -> {
                int many = model.now.waiting.size();
                int v = many < 4 && draws.nextInt(4) > 0 ? model.now.sold[many] : any(99);
                same(fish.tell(v), model.tell(v));
            }
            case 59 -> {
                if (draws.nextInt(4) == 0) {
                    same(fish.check(), model.check());
                }
            }
            case 60 -> {
                int what = any(9);
                same(fish.count(what), model.count(what));
            }
            default -> {
                int k = any(7);
                same(fish.told(k), model.told(k));
            }
        }
    }

    private static void feedText(int use) {
        StringBuilder text = new StringBuilder();
        write(text, 0, use == 1 ? "ptn" : "csn");
        if (draws.nextInt(5) == 0 && text.length() > 0) {
            text.setCharAt(draws.nextInt(text.length()), (char) draws.nextInt(256));
        }
        if (draws.nextInt(8) == 0) {
            text.setLength(draws.nextInt(text.length() + 1));
        }
        for (int at = 0; at < text.length(); ) {
            int many = Math.min(1 + draws.nextInt(8), text.length() - at);
            long word = draws.nextLong();
            for (int i = many - 1; i >= 0; i--) {
                word = word << 8 | text.charAt(at + i);
            }
            name = "feed of " + text;
            same(fish.feed(word, many), model.feed(word, many));
            at += many;
        }
        name = "text(" + use + ") of " + text;
        same(fish.text(use), model.text(use));
    }

    private static void write(StringBuilder text, int depth, String names) {
        int kind = draws.nextInt(depth > 6 ? 4 : 10);
        if (kind < 2) {
            text.append(names.charAt(draws.nextInt(3)));
        } else if (kind < 4) {
            text.append(draws.nextInt(draws.nextBoolean() ? 10 : 10000));
        } else if (kind == 4) {
            text.append('!');
            write(text, depth + 1, names);
        } else if (kind == 5) {
            text.append('(');
            write(text, depth + 1, names);
            text.append(')');
        } else {
            write(text, depth + 1, names);
            text.append("|&<=>+-*/%".charAt(draws.nextInt(10)));
            write(text, depth + 1, names);
        }
    }
}
