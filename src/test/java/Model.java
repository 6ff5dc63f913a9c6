import java.util.ArrayList;
import java.util.List;

/**
 * The document once more, written apart from the class and in other ways (texts are worked out by
 * splitting them, FAULTS come from a walk over states), so that a slip in one of both shows.
 */
final class Model {
    static final String[] NAMES = {"csn", "ptn"};

    /** What an IMAGE keeps. */
    static final class Kept {
        int[] sold = new int[4];
        int[] price = {2, 2, 2, 2};
        int waves;
        int day;
        int purse;
        int owed;
        int trust = 20;
        List<int[]> boats = new ArrayList<>();
        String[] texts = new String[2];
        String tape = "";
        List<Integer> waiting = new ArrayList<>();
        int z = 1;

        Kept copy() {
            Kept k = new Kept();
            k.sold = sold.clone();
            k.price = price.clone();
            k.waves = waves;
            k.day = day;
            k.purse = purse;
            k.owed = owed;
            k.trust = trust;
            for (int[] b : boats) {
                k.boats.add(b.clone());
            }
            k.texts = texts.clone();
            k.tape = tape;
            k.waiting = new ArrayList<>(waiting);
            k.z = z;
            return k;
        }
    }

    Kept now = new Kept();
    Kept image;
    int images;
    long[][] sheets = new long[4][];
    int[] bits = new int[4];
    List<Integer> trace = new ArrayList<>();
    int[] told = new int[7];

    /** Ends a voice() where it parts; what stands left of that has been spoken, what stands right never is. */
    static final class Parted extends RuntimeException {
        private static final long serialVersionUID = 1;
    }

    int err(int k) {
        told[k]++;
        return -1000000000 - k;
    }

    static boolean in(long v, long a, long b) {
        return a <= v && v <= b;
    }

    boolean isBoat(int b) {
        return in(b, 0, now.boats.size() - 1);
    }

    static int hauls(int kind, int m, int f, int w, int day) {
        int boat = 5 + m - w;
        if (kind == 0) {
            return boat;
        } else if (kind == 1) {
            return hauls(0, m, f, w, day) + 5;
        } else if (kind == 2) {
            return half(boat);
        } else if (kind == 3) {
            return f == m % 4 ? boat + boat : half(boat);
        } else if (kind == 4) {
            return hauls(1, m, f, w, day) + day % 5;
        } else if (kind == 5) {
            return w >= 7 ? 0 : hauls(2, m, f, w, day) + f;
        }
        return 20 - m - w - w - f;
    }

    static int half(int v) {
        return v < 0 ? -(-v / 2) : v / 2;
    }

    static int eats(int kind, int day) {
        return switch (kind) {
            case 0, 2 -> 1;
            case 1 -> eats(0, day) + 1;
            case 3 -> eats(0, day) + (day & 1);
            case 4 -> 2 * eats(1, day);
            case 5 -> eats(2, day) - 1;
            default -> eats(0, day) + 3;
        };
    }

    static int hold(int v) {
        return v < 0 ? 0 : v > 99 ? 99 : v;
    }

    int gives(int use, int a, int b, int c) {
        return hold(now.texts[use] == null ? a : worth(now.texts[use], NAMES[use], a, b, c));
    }

    /** A text is split at the last sign that binds least. */
    static int worth(String s, String names, int a, int b, int c) {
        for (String signs : new String[] {"|", "&", "<=>", "+-", "*/%"}) {
            int open = 0;
            for (int i = s.length() - 1; i > 0; i--) {
                char sign = s.charAt(i);
                open += sign == ')' ? 1 : sign == '(' ? -1 : 0;
                if (open == 0 && signs.indexOf(sign) >= 0) {
                    int l = worth(s.substring(0, i), names, a, b, c);
                    int r = worth(s.substring(i + 1), names, a, b, c);
                    return join(sign, l, r);
                }
            }
        }
        char first = s.charAt(0);
        if (first == '!') {
            return worth(s.substring(1), names, a, b, c) == 0 ? 1 : 0;
        }
        if (first == '(') {
            return worth(s.substring(1, s.length() - 1), names, a, b, c);
        }
        int name = names.indexOf(first);
        return name == 0 ? a : name == 1 ? b : name == 2 ? c : Integer.parseInt(s);
    }

    static int join(char sign, int l, int r) {
        boolean p = l != 0;
        boolean q = r != 0;
        long x = l;
        long y = r;
        return switch (sign) {
            case '|' -> p | q ? 1 : 0;
            case '&' -> p & q ? 1 : 0;
            case '<' -> x < y ? 1 : 0;
            case '=' -> x == y ? 1 : 0;
            case '>' -> x > y ? 1 : 0;
            case '+' -> (int) (x + y);
            case '-' -> (int) (x - y);
            case '*' -> (int) (x * y);
            case '/' -> y == 0 ? 0 : (int) (x / y);
            default -> y == 0 ? 0 : (int) (x % y);
        };
    }

    /** -1, or the place of the FAULT. */
    static int fault(String s, String names) {
        boolean wantsItem = true;
        int digits = 0;
        StringBuilder open = new StringBuilder();
        boolean[] compared = new boolean[8];
        int brackets = 0;
        for (int i = 0; i < s.length(); i++) {
            char ch = s.charAt(i);
            boolean digit = ch >= '0' && ch <= '9';
            if (wantsItem) {
                if (digit || names.indexOf(ch) >= 0) {
                    digits = digit ? 1 : 0;
                    wantsItem = false;
                    closeDenials(open);
                } else if ((ch == '!' || ch == '(') && open.length() < 5) {
                    open.append(ch);
                    if (ch == '(') {
                        compared[++brackets] = false;
                    }
                } else {
                    return i;
                }
            } else if (digit) {
                if (digits == 0 || digits == 4) {
                    return i;
                }
                digits++;
            } else {
                digits = 0;
                if (ch == ')') {
                    if (brackets == 0) {
                        return i;
                    }
                    brackets--;
                    open.setLength(open.length() - 1);
                    closeDenials(open);
                    continue;
                }
                if ("|&<=>+-*/%".indexOf(ch) < 0) {
                    return i;
                }
                if ("<=>".indexOf(ch) >= 0) {
                    if (compared[brackets]) {
                        return i;
                    }
                    compared[brackets] = true;
                }
                if (ch == '|' || ch == '&') {
                    compared[brackets] = false;
                }
                wantsItem = true;
            }
        }
        return wantsItem || brackets > 0 ? s.length() : -1;
    }

    static void closeDenials(StringBuilder open) {
        while (open.length() > 0 && open.charAt(open.length() - 1) == '!') {
            open.setLength(open.length() - 1);
        }
    }

    int lands(int[] boat, int f, int n, int w, int day) {
        return boat[2] == 1 ? 0 : gives(0, hauls(boat[0], boat[1], f, w, day), w, n);
    }

    int caught(int f, int n, int w, int day) {
        return now.boats.stream().mapToInt(b -> lands(b, f, n, w, day)).sum();
    }

    int boat(int km) {
        if (!in(km, 0, 69)) {
            return err(1);
        }
        if (now.boats.size() == 6) {
            return err(4);
        }
        now.boats.add(new int[] {km / 10, km % 10, 0});
        return now.boats.size() - 1;
    }

    int boatIs(int boat, int what) {
        if (!isBoat(boat) || !in(what, 0, 7)) {
            return err(1);
        }
        int[] b = now.boats.get(boat);
        if (what < 3) {
            return b[what];
        }
        return what == 3 ? eats(b[0], now.day) : lands(b, what - 4, now.sold[what - 4], now.waves, now.day);
    }

    int become(int boat, int km) {
        if (!isBoat(boat) || !in(km, 0, 69)) {
            return err(1);
        }
        int[] b = now.boats.get(boat);
        now.boats.set(boat, new int[] {km / 10, km % 10, b[2]});
        return b[0];
    }

    int as(int boat, int kind) {
        if (!isBoat(boat) || !in(kind, 0, 6)) {
            return err(1);
        }
        int[] b = now.boats.get(boat);
        boolean is = kind == 0 || kind == b[0] || kind == 1 && b[0] == 4 || kind == 2 && b[0] == 5;
        return is ? b[1] : err(5);
    }

    int lose(int boat, int is) {
        if (!isBoat(boat) || !in(is, 0, 1)) {
            return err(1);
        }
        int was = now.boats.get(boat)[2];
        now.boats.get(boat)[2] = is;
        return was;
    }

    int rises(int v) {
        if (!in(v, 0, 9)) {
            return err(1);
        }
        int was = now.waves;
        now.waves = v;
        return was;
    }

    int price(int f, int v) {
        if (!in(f, 0, 3) || !in(v, 0, 9)) {
            return err(1);
        }
        int was = now.price[f];
        now.price[f] = v;
        return was;
    }

    int sell(int f, int n) {
        if (!in(f, 0, 3) || !in(n, 0, 99)) {
            return err(1);
        }
        return now.sold[f] + n > 99 ? err(3) : toSell(f, n);
    }

    int toSell(int f, int n) {
        int coins = n * gives(1, now.price[f], now.trust, now.sold[f]);
        now.purse = now.purse + coins > 99999 ? 99999 : now.purse + coins;
        now.sold[f] += n;
        return coins;
    }

    int feed(long word, int n) {
        if (!in(n, 1, 8)) {
            return err(1);
        }
        if (now.tape.length() + n > 60) {
            return err(4);
        }
        for (int i = 0; i < n; i++) {
            now.tape += (char) (word & 255);
            word >>= 8;
        }
        return now.tape.length();
    }

    int text(int use) {
        if (!in(use, 0, 1)) {
            return err(1);
        }
        String read = now.tape;
        now.tape = "";
        int fault = fault(read, NAMES[use]);
        if (fault >= 0) {
            return -10 - fault;
        }
        now.texts[use] = read;
        return 1;
    }

    int untell(int use) {
        if (!in(use, 0, 1)) {
            return err(1);
        }
        int was = now.texts[use] == null ? 0 : 1;
        now.texts[use] = null;
        return was;
    }

    int law(int use, int a, int b, int c) {
        return in(use, 0, 1) ? gives(use, a, b, c) : err(1);
    }

    int tally() {
        return now.day == 9999 ? err(3) : itTallies();
    }

    int itTallies() {
        int all = 0;
        for (int f = 0; f < 4; f++) {
            int missing = now.sold[f] - caught(f, now.sold[f], now.waves, now.day);
            if (missing > 0) {
                all += missing;
                now.purse = Math.max(-99999, now.purse - missing * 2 * now.price[f]);
            }
        }
        now.sold = new int[4];
        for (int[] b : now.boats) {
            if (b[2] == 0) {
                now.purse = Math.max(-99999, now.purse - eats(b[0], now.day));
            }
        }
        now.owed = Math.min(99999, now.owed + all);
        now.trust = Math.min(99, Math.max(0, now.trust + (all == 0 ? 1 : -2)));
        now.day++;
        return all;
    }

    int draw() {
        now.z = (int) (now.z * 1103515245L + 12345L);
        return (int) ((now.z & 0xFFFFFFFFL) / 256);
    }

    int loose(int n) {
        if (!in(n, 1, 30)) {
            return err(1);
        }
        if (now.day + n > 9999) {
            return err(3);
        }
        int all = 0;
        for (int i = 0; i < n; i++) {
            int f = draw() % 4;
            int many = draw() % 30;
            if (now.sold[f] + many < 100) {
                toSell(f, many);
            }
            now.waves = draw() % 10;
            all += itTallies();
        }
        return all;
    }

    int seed(int v) {
        int was = now.z;
        now.z = v;
        return was;
    }

    int catchNow(int f) {
        return caught(f, now.sold[f], now.waves, now.day);
    }

    int catches(int f) {
        return in(f, 0, 3) ? catchNow(f) : err(1);
    }

    int safe(int f) {
        if (!in(f, 0, 3)) {
            return err(1);
        }
        int safe = 0;
        for (int n = 0; n < 100; n++) {
            int fewest = Integer.MAX_VALUE;
            for (int w = 0; w < 10; w++) {
                fewest = Math.min(fewest, caught(f, n, w, now.day));
            }
            safe = fewest >= n ? n : safe;
        }
        return safe;
    }

    int best(int f, int what) {
        if (!in(f, 0, 3) || !in(what, 0, 1)) {
            return err(1);
        }
        int[] sums = new int[100];
        for (int w = 0; w < 10; w++) {
            for (int n = 0; n < 100; n++) {
                int missing = Math.max(0, n - caught(f, n, w, now.day));
                sums[n] += n * gives(1, now.price[f], now.trust, 0) - 2 * now.price[f] * missing;
            }
        }
        int at = 99;
        for (int n = 98; n >= 0; n--) {
            at = sums[n] >= sums[at] ? n : at;
        }
        return what == 0 ? at : sums[at];
    }

    int agrees(int f, int what) {
        if (!in(f, 0, 3) || !in(what, 0, 1)) {
            return err(1);
        }
        List<Integer> them = new ArrayList<>();
        for (int n = 0; n < 100; n++) {
            if (caught(f, n, now.waves, now.day) == n) {
                them.add(n);
            }
        }
        if (what == 0) {
            return them.size();
        }
        return them.isEmpty() ? err(2) : them.get(0);
    }

    int needs(int what) {
        if (!in(what, 0, 1)) {
            return err(1);
        }
        int boats = now.boats.size();
        for (int many = 0; many <= boats; many++) {
            for (int set = 0; set < 1 << boats; set++) {
                if (Integer.bitCount(set) == many && doWith(set)) {
                    return what == 0 ? many : set;
                }
            }
        }
        return err(2);
    }

    boolean doWith(int set) {
        for (int f = 0; f < 4; f++) {
            int left = now.sold[f];
            for (int b = 0; b < now.boats.size(); b++) {
                left -= (set & 1 << b) != 0 ? lands(now.boats.get(b), f, now.sold[f], now.waves, now.day) : 0;
            }
            if (left > 0) {
                return false;
            }
        }
        return true;
    }

    int soonest(int f, int n) {
        if (!in(f, 0, 3) || !in(n, 0, 99)) {
            return err(1);
        }
        for (int d = 0; d < 61; d++) {
            if (caught(f, n, now.waves, now.day + d) >= n) {
                return d;
            }
        }
        return err(2);
    }

    static int lowest(int above, int part) {
        if (above == 0) {
            return part;
        }
        int a = above;
        int b = 10;
        while (b != 0) {
            int rest = a % b;
            a = b;
            b = rest;
        }
        return part == 0 ? above / a : 10 / a;
    }

    int odds(int f, int n, int part) {
        if (!in(f, 0, 3) || !in(n, 0, 99) || !in(part, 0, 1)) {
            return err(1);
        }
        int seas = 0;
        for (int w = 0; w < 10; w++) {
            seas += caught(f, n, w, now.day) < n ? 0 : 1;
        }
        return lowest(seas, part);
    }

    int mean(int f, int part) {
        if (!in(f, 0, 3) || !in(part, 0, 1)) {
            return err(1);
        }
        int all = 0;
        for (int w = 0; w < 10; w++) {
            all += caught(f, now.sold[f], w, now.day);
        }
        return lowest(all, part);
    }

    int fits(int sheet, int what) {
        if (!in(sheet, 0, 3) || !in(what, 0, 1)) {
            return err(1);
        }
        if (sheets[sheet] == null) {
            return err(2);
        }
        int set = 0;
        for (int w = 9; w >= 0; w--) {
            boolean so = true;
            for (int i = 0; i < sheets[sheet].length; i++) {
                so &= i < 4 && caught(i, now.sold[i], w, now.day) == sheets[sheet][i];
            }
            set = set * 2 + (so ? 1 : 0);
        }
        if (what == 0) {
            return set;
        }
        for (int w = 0; w < 10; w++) {
            if ((set & 1 << w) != 0) {
                return w;
            }
        }
        return err(2);
    }

    int voice(int boat, int voice, int x) {
        if (!isBoat(boat) || !in(voice, 0, 3)) {
            return err(1);
        }
        int[] b = now.boats.get(boat);
        trace = new ArrayList<>();
        Hull[] hulls = {new Hull(), new Smack(), new Skiff(), new Drifter(), new Lugger(), new Coble(), new Trawler()};
        Hull hull = hulls[b[0]];
        hull.k = boat;
        hull.m = b[1];
        try {
            return switch (voice) {
                case 0 -> hull.calls(x);
                case 1 -> hull.hauls(x);
                case 2 -> hull.lets(x);
                default -> hull.parts(x);
            };
        } catch (Parted end) {
            return err(6);
        }
    }

    void begins(int body) {
        if (trace.size() < 30) {
            trace.add(body);
        }
    }

    class Hull {
        int k;
        int m;

        int calls(int x) {
            begins(10);
            return x + k;
        }

        int hauls(int x) {
            begins(11);
            return calls(x) * 2;
        }

        int lets(int x) {
            begins(12);
            return hauls(x) - m;
        }

        int parts(int x) {
            begins(13);
            if (m == k) {
                throw new Parted();
            }
            return x / (m - k);
        }
    }

    class Smack extends Hull {
        @Override
        int calls(int x) {
            begins(20);
            return super.calls(x) - 4;
        }

        @Override
        int parts(int x) {
            begins(21);
            return super.parts(x) + hauls(1);
        }
    }

    class Skiff extends Hull {
        @Override
        int hauls(int x) {
            begins(30);
            return 0 - super.hauls(x);
        }
    }

    class Drifter extends Hull {
        @Override
        int lets(int x) {
            begins(40);
            return super.lets(x / 2);
        }
    }

    class Lugger extends Smack {
        @Override
        int calls(int x) {
            begins(50);
            return super.calls(x) * 3;
        }

        @Override
        int lets(int x) {
            begins(51);
            return super.lets(x) ^ k;
        }
    }

    class Coble extends Skiff {
        @Override
        int hauls(int x) {
            begins(60);
            return super.hauls(x + 1);
        }
    }

    class Trawler extends Hull {
        @Override
        int calls(int x) {
            begins(70);
            return 9;
        }

        @Override
        int hauls(int x) {
            begins(71);
            return super.hauls(x) + m;
        }
    }

    int body(int i) {
        return in(i, 0, trace.size() - 1) ? trace.get(i) : err(2);
    }

    int sheet(int sheet, int of, int n) {
        if (!in(sheet, 0, 3) || of != 0 && of != 8 && of != 16 && of != 32) {
            return err(1);
        }
        if (of == 0) {
            sheets[sheet] = null;
            return 1;
        }
        if (n < 0) {
            return err(3);
        }
        if (n > 24) {
            return err(1);
        }
        sheets[sheet] = new long[n];
        bits[sheet] = of;
        return 1;
    }

    int put(int sheet, int i, int v) {
        if (!in(sheet, 0, 3)) {
            return err(1);
        }
        if (sheets[sheet] == null) {
            return err(2);
        }
        if (!in(i, 0, sheets[sheet].length - 1)) {
            return err(1);
        }
        sheets[sheet][i] = Math.floorMod((long) v, 1L << bits[sheet]);
        return 1;
    }

    int move(int sheet, int i, int other, int j, int n) {
        if (!in(sheet, 0, 3) || !in(other, 0, 3)) {
            return err(1);
        }
        if (sheets[sheet] == null || sheets[other] == null) {
            return err(2);
        }
        if (bits[sheet] != bits[other]) {
            return err(5);
        }
        if (n < 0 || i < 0 || j < 0 || (long) i + n > sheets[sheet].length || (long) j + n > sheets[other].length) {
            return err(1);
        }
        long[] were = sheets[sheet].clone();
        for (int at = 0; at < n; at++) {
            sheets[other][j + at] = were[i + at];
        }
        return n;
    }

    int prices(int sheet) {
        if (!in(sheet, 0, 3)) {
            return err(1);
        }
        if (sheets[sheet] == null) {
            return err(2);
        }
        int done = 0;
        while (done < 4 && done < sheets[sheet].length && in(sheets[sheet][done], 0, 9)) {
            now.price[done] = (int) sheets[sheet][done];
            done++;
        }
        return done;
    }

    int judge(int sheet) {
        if (!in(sheet, 0, 3)) {
            return err(1);
        }
        if (sheets[sheet] == null) {
            return err(2);
        }
        int right = 0;
        while (right < 4 && right < sheets[sheet].length && sheets[sheet][right] == catchNow(right)) {
            right++;
        }
        return right;
    }

    int image() {
        image = now.copy();
        return ++images;
    }

    int restore() {
        if (image == null) {
            return err(2);
        }
        now = image.copy();
        return now.day;
    }

    int tell(int v) {
        if (now.waiting.size() == 24) {
            return err(4);
        }
        now.waiting.add(v);
        return now.waiting.size();
    }

    int check() {
        List<Integer> said = now.waiting;
        now.waiting = new ArrayList<>();
        for (int i = 0; i < said.size(); i++) {
            if (i > 3 || said.get(i) != now.sold[i]) {
                return i + 1;
            }
        }
        return 0;
    }

    int count(int what) {
        if (!in(what, 0, 9)) {
            return err(1);
        }
        int[] all = {now.boats.size(), now.waves, now.day, now.purse, now.owed, now.trust,
            now.tape.length(), now.waiting.size(), trace.size(), now.z};
        return all[what];
    }

    int told(int k) {
        return in(k, 1, 6) ? told[k] : err(1);
    }
}
