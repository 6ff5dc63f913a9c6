import java.util.Arrays;

/** Fish sold on a quay a day before the boats bring it; ../shared/DOC.md says what each call does. */
public final class PromisedFish {
    private static final int LOW = -1000000000;
    private static final int BEYOND = LOW - 1;
    private static final int NONE = LOW - 2;
    private static final int STATE = LOW - 3;
    private static final int FULL = LOW - 4;
    private static final int KIND = LOW - 5;
    private static final int PARTED = LOW - 6;
    private static final int ERRORS = 6;

    private static final int FISH = 4;
    private static final int MOST_SOLD = 99;
    private static final int MOST_PRICE = 9;
    private static final int SEAS = 10;
    private static final int LAST_DAY = 9999;
    private static final int MOST_LOOSE = 30;
    private static final int MOST_MONEY = 99999;
    private static final int MOST_TRUST = 99;
    private static final int BOATS = 6;
    private static final int USES = 2;
    private static final int LANDS = 0;
    private static final int COINS = 1;
    private static final int NAMES_OF_A_USE = 3;
    private static final String NAMES = "csnptn";
    private static final int TAPE = 60;
    private static final int WAITING = 24;
    private static final int SHEETS = 4;
    private static final int NUMBERS = 24;
    private static final int TRACE = 30;

    private static final int KINDS = 7;
    private static final int SMACK = 1;
    private static final int SKIFF = 2;
    private static final int DRIFTER = 3;
    private static final int LUGGER = 4;
    private static final int COBLE = 5;
    private static final int TRAWLER = 6;
    /** By KIND, the KIND above it; BOAT has none. */
    private static final int[] ABOVE = {-1, 0, 0, 0, 1, 2, 0};

    private final Quay now = new Quay();
    private final Quay kept = new Quay();
    private final Reader reader = new Reader();
    private final Voices voices = new Voices();
    private final Sheet[] sheets = new Sheet[SHEETS];
    private final int[] refused = new int[ERRORS + 1];
    private int images;

    public PromisedFish() {
        for (int i = 0; i < SHEETS; i++) {
            sheets[i] = new Sheet();
        }
    }

    // ---- boats, sales

    public int boat(int km) {
        if (!isKindWithNumber(km)) {
            return refuse(BEYOND);
        }
        if (now.boats >= BOATS) {
            return refuse(FULL);
        }
        int number = now.boats;
        now.fleet[number].turnInto(km);
        now.fleet[number].lost = 0;
        now.boats++;
        return number;
    }

    public int boatIs(int boat, int what) {
        if (!isBoat(boat) || !isWithin(what, 3 + FISH)) {
            return refuse(BEYOND);
        }
        Boat it = now.fleet[boat];
        switch (what) {
            case 0:
                return it.kind;
            case 1:
                return it.m;
            case 2:
                return it.lost;
            case 3:
                return it.eats(now.day);
            default:
                int fish = what - 4;
                return now.landed(boat, fish, now.sold[fish], now.waves, now.day);
        }
    }

    public int become(int boat, int km) {
        if (!isBoat(boat) || !isKindWithNumber(km)) {
            return refuse(BEYOND);
        }
        int was = now.fleet[boat].kind;
        now.fleet[boat].turnInto(km);
        return was;
    }

    public int as(int boat, int kind) {
        if (!isBoat(boat) || !isWithin(kind, KINDS - 1)) {
            return refuse(BEYOND);
        }
        if (!now.fleet[boat].isOneOf(kind)) {
            return refuse(KIND);
        }
        return now.fleet[boat].m;
    }

    public int lose(int boat, int is) {
        if (!isBoat(boat) || !isWithin(is, 1)) {
            return refuse(BEYOND);
        }
        int was = now.fleet[boat].lost;
        now.fleet[boat].lost = is;
        return was;
    }

    public int rises(int v) {
        if (!isWithin(v, SEAS - 1)) {
            return refuse(BEYOND);
        }
        int were = now.waves;
        now.waves = v;
        return were;
    }

    public int price(int fish, int v) {
        if (!isFish(fish) || !isWithin(v, MOST_PRICE)) {
            return refuse(BEYOND);
        }
        int was = now.asked[fish];
        now.asked[fish] = v;
        return was;
    }

    public int sell(int fish, int n) {
        if (!isFish(fish) || !isWithin(n, MOST_SOLD)) {
            return refuse(BEYOND);
        }
        if (now.sold[fish] + n > MOST_SOLD) {
            return refuse(STATE);
        }
        return now.promise(fish, n);
    }

    // ---- texts

    public int feed(long word, int n) {
        if (n < 1 || n > 8) {
            return refuse(BEYOND);
        }
        if (now.taped + n > TAPE) {
            return refuse(FULL);
        }
        for (int i = 0; i < n; i++) {
            now.tape[now.taped] = (int) (word >>> (8 * i)) & 255;
            now.taped++;
        }
        return now.taped;
    }

    public int text(int use) {
        if (!isUse(use)) {
            return refuse(BEYOND);
        }
        int fault = reader.faultIn(now.tape, now.taped, use);
        now.taped = 0;
        if (fault != Reader.NO_FAULT) {
            return -10 - fault;
        }
        now.laws[use].take(reader.code, reader.written);
        return 1;
    }

    public int untell(int use) {
        if (!isUse(use)) {
            return refuse(BEYOND);
        }
        int was = now.laws[use].stands ? 1 : 0;
        now.laws[use].stands = false;
        return was;
    }

    public int law(int use, int a, int b, int c) {
        if (!isUse(use)) {
            return refuse(BEYOND);
        }
        return now.laws[use].gives(a, b, c);
    }

    // ---- evenings

    public int tally() {
        if (now.day >= LAST_DAY) {
            return refuse(STATE);
        }
        return now.settle();
    }

    public int loose(int n) {
        if (n < 1 || n > MOST_LOOSE) {
            return refuse(BEYOND);
        }
        if (now.day + n > LAST_DAY) {
            return refuse(STATE);
        }
        int missing = 0;
        for (int i = 0; i < n; i++) {
            missing += now.dayByDraws();
        }
        return missing;
    }

    public int seed(int v) {
        int was = now.z;
        now.z = v;
        return was;
    }

    // ---- what would be

    public int catches(int fish) {
        if (!isFish(fish)) {
            return refuse(BEYOND);
        }
        return now.caughtNow(fish);
    }

    public int safe(int fish) {
        if (!isFish(fish)) {
            return refuse(BEYOND);
        }
        return Thoughts.safest(now, fish);
    }

    public int best(int fish, int what) {
        if (!isFish(fish) || !isWithin(what, 1)) {
            return refuse(BEYOND);
        }
        int n = Thoughts.bestToSell(now, fish);
        return what == 0 ? n : Thoughts.gain(now, fish, n);
    }

    public int agrees(int fish, int what) {
        if (!isFish(fish) || !isWithin(what, 1)) {
            return refuse(BEYOND);
        }
        if (what == 0) {
            return Thoughts.howManyAgree(now, fish);
        }
        int least = Thoughts.leastThatAgrees(now, fish);
        return least < 0 ? refuse(NONE) : least;
    }

    public int needs(int what) {
        if (!isWithin(what, 1)) {
            return refuse(BEYOND);
        }
        int set = Thoughts.fewestBoats(now);
        if (set < 0) {
            return refuse(NONE);
        }
        return what == 0 ? Integer.bitCount(set) : set;
    }

    public int soonest(int fish, int n) {
        if (!isFish(fish) || !isWithin(n, MOST_SOLD)) {
            return refuse(BEYOND);
        }
        int days = Thoughts.daysUntil(now, fish, n);
        return days < 0 ? refuse(NONE) : days;
    }

    public int odds(int fish, int n, int part) {
        if (!isFish(fish) || !isWithin(n, MOST_SOLD) || !isWithin(part, 1)) {
            return refuse(BEYOND);
        }
        return Thoughts.partOfTenths(Thoughts.seasThatDo(now, fish, n), part);
    }

    public int mean(int fish, int part) {
        if (!isFish(fish) || !isWithin(part, 1)) {
            return refuse(BEYOND);
        }
        return Thoughts.partOfTenths(Thoughts.caughtInAllSeas(now, fish), part);
    }

    public int fits(int sheet, int what) {
        if (!isSheet(sheet) || !isWithin(what, 1)) {
            return refuse(BEYOND);
        }
        if (sheets[sheet].isMissing()) {
            return refuse(NONE);
        }
        int seas = Thoughts.seasThatFit(now, sheets[sheet]);
        if (what == 0) {
            return seas;
        }
        return seas == 0 ? refuse(NONE) : Integer.numberOfTrailingZeros(seas);
    }

    // ---- voices, sheets, images, what is told

    public int voice(int boat, int voice, int x) {
        if (!isBoat(boat) || !isWithin(voice, Voices.VOICES - 1)) {
            return refuse(BEYOND);
        }
        int said = voices.hear(now.fleet[boat], boat, voice, x);
        return voices.parted ? refuse(PARTED) : said;
    }

    public int body(int i) {
        if (i < 0 || i >= voices.traced) {
            return refuse(NONE);
        }
        return voices.trace[i];
    }

    public int sheet(int sheet, int bits, int n) {
        if (!isSheet(sheet) || (bits != 0 && bits != 8 && bits != 16 && bits != 32)) {
            return refuse(BEYOND);
        }
        if (bits == 0) {
            sheets[sheet].lay(0, 0);
            return 1;
        }
        if (n < 0) {
            return refuse(STATE);
        }
        if (n > NUMBERS) {
            return refuse(BEYOND);
        }
        sheets[sheet].lay(bits, n);
        return 1;
    }

    public int put(int sheet, int i, int v) {
        if (!isSheet(sheet)) {
            return refuse(BEYOND);
        }
        Sheet it = sheets[sheet];
        if (it.isMissing()) {
            return refuse(NONE);
        }
        if (i < 0 || i >= it.length) {
            return refuse(BEYOND);
        }
        it.numbers[i] = it.lowestBits(v);
        return 1;
    }

    public int move(int sheet, int i, int other, int j, int n) {
        if (!isSheet(sheet) || !isSheet(other)) {
            return refuse(BEYOND);
        }
        Sheet from = sheets[sheet];
        Sheet to = sheets[other];
        if (from.isMissing() || to.isMissing()) {
            return refuse(NONE);
        }
        if (from.bits != to.bits) {
            return refuse(KIND);
        }
        if (!from.has(i, n) || !to.has(j, n)) {
            return refuse(BEYOND);
        }
        System.arraycopy(from.numbers, i, to.numbers, j, n);
        return n;
    }

    public int prices(int sheet) {
        if (!isSheet(sheet)) {
            return refuse(BEYOND);
        }
        Sheet it = sheets[sheet];
        if (it.isMissing()) {
            return refuse(NONE);
        }
        int most = Math.min(it.length, FISH);
        for (int fish = 0; fish < most; fish++) {
            if (!isWithin(it.numbers[fish], MOST_PRICE)) {
                return fish;
            }
            now.asked[fish] = it.numbers[fish];
        }
        return most;
    }

    public int judge(int sheet) {
        if (!isSheet(sheet)) {
            return refuse(BEYOND);
        }
        Sheet it = sheets[sheet];
        if (it.isMissing()) {
            return refuse(NONE);
        }
        int most = Math.min(it.length, FISH);
        for (int fish = 0; fish < most; fish++) {
            if (it.numbers[fish] != now.caughtNow(fish)) {
                return fish;
            }
        }
        return most;
    }

    public int image() {
        kept.takeFrom(now);
        images++;
        return images;
    }

    public int restore() {
        if (images == 0) {
            return refuse(NONE);
        }
        now.takeFrom(kept);
        return now.day;
    }

    public int tell(int v) {
        if (now.waits >= WAITING) {
            return refuse(FULL);
        }
        now.waiting[now.waits] = v;
        now.waits++;
        return now.waits;
    }

    public int check() {
        int many = now.waits;
        now.waits = 0;
        for (int i = 0; i < many; i++) {
            if (i >= FISH || now.waiting[i] != now.sold[i]) {
                return 1 + i;
            }
        }
        return 0;
    }

    public int count(int what) {
        switch (what) {
            case 0:
                return now.boats;
            case 1:
                return now.waves;
            case 2:
                return now.day;
            case 3:
                return now.purse;
            case 4:
                return now.owed;
            case 5:
                return now.trust;
            case 6:
                return now.taped;
            case 7:
                return now.waits;
            case 8:
                return voices.traced;
            case 9:
                return now.z;
            default:
                return refuse(BEYOND);
        }
    }

    public int told(int k) {
        if (k < 1 || k > ERRORS) {
            return refuse(BEYOND);
        }
        return refused[k];
    }

    private int refuse(int error) {
        int k = LOW - error;
        if (k >= 1 && k <= ERRORS) {
            refused[k]++;
        }
        return error;
    }

    private static boolean isWithin(int v, int most) {
        return v >= 0 && v <= most;
    }

    private static boolean isFish(int fish) {
        return fish >= 0 && fish < FISH;
    }

    private static boolean isUse(int use) {
        return use >= 0 && use < USES;
    }

    private static boolean isSheet(int sheet) {
        return sheet >= 0 && sheet < SHEETS;
    }

    private static boolean isKindWithNumber(int km) {
        return km >= 0 && km < 10 * KINDS;
    }

    private boolean isBoat(int boat) {
        return boat >= 0 && boat < now.boats;
    }

    private static int held(int v, int least, int most) {
        return Math.max(least, Math.min(most, v));
    }

    /** A BOAT of a KIND. */
    private static final class Boat {
        private int kind;
        private int m;
        private int lost;

        private void turnInto(int km) {
            kind = km / 10;
            m = km % 10;
        }

        private void takeFrom(Boat other) {
            kind = other.kind;
            m = other.m;
            lost = other.lost;
        }

        private boolean isOneOf(int wanted) {
            int k = kind;
            for (int up = 0; up < KINDS && k >= 0; up++) {
                if (k == wanted) {
                    return true;
                }
                k = ABOVE[k];
            }
            return false;
        }

        private int hauls(int fish, int waves, int day) {
            int plain = 5 + m - waves;
            switch (kind) {
                case SMACK:
                    return plain + 5;
                case SKIFF:
                    return plain / 2;
                case DRIFTER:
                    return fish == m % 4 ? plain * 2 : plain / 2;
                case LUGGER:
                    return plain + 5 + day % 5;
                case COBLE:
                    return waves > 6 ? 0 : plain / 2 + fish;
                case TRAWLER:
                    return 20 - m - waves * 2 - fish;
                default:
                    return plain;
            }
        }

        private int eats(int day) {
            switch (kind) {
                case SMACK:
                    return 2;
                case DRIFTER:
                    return 1 + day % 2;
                case LUGGER:
                case TRAWLER:
                    return 4;
                case COBLE:
                    return 0;
                default:
                    return 1;
            }
        }
    }

    /** All that an IMAGE keeps, and how it goes on. */
    private static final class Quay {
        private final int[] sold = new int[FISH];
        private final int[] asked = new int[FISH];
        private final Boat[] fleet = new Boat[BOATS];
        private final Law[] laws = new Law[USES];
        private final int[] tape = new int[TAPE];
        private final int[] waiting = new int[WAITING];
        private int boats;
        private int waves;
        private int day;
        private int purse;
        private int owed;
        private int trust = 20;
        private int taped;
        private int waits;
        private int z = 1;

        private Quay() {
            Arrays.fill(asked, 2);
            for (int i = 0; i < BOATS; i++) {
                fleet[i] = new Boat();
            }
            for (int i = 0; i < USES; i++) {
                laws[i] = new Law();
            }
        }

        private void takeFrom(Quay other) {
            System.arraycopy(other.sold, 0, sold, 0, FISH);
            System.arraycopy(other.asked, 0, asked, 0, FISH);
            System.arraycopy(other.tape, 0, tape, 0, TAPE);
            System.arraycopy(other.waiting, 0, waiting, 0, WAITING);
            for (int i = 0; i < BOATS; i++) {
                fleet[i].takeFrom(other.fleet[i]);
            }
            for (int i = 0; i < USES; i++) {
                laws[i].takeFrom(other.laws[i]);
            }
            boats = other.boats;
            waves = other.waves;
            day = other.day;
            purse = other.purse;
            owed = other.owed;
            trust = other.trust;
            taped = other.taped;
            waits = other.waits;
            z = other.z;
        }

        /** What a BOAT LANDS, were n SOLD, by such a sea, on such a day. */
        private int landed(int boat, int fish, int n, int sea, int on) {
            Boat it = fleet[boat];
            if (it.lost == 1) {
                return 0;
            }
            return laws[LANDS].gives(it.hauls(fish, sea, on), sea, n);
        }

        private int caught(int fish, int n, int sea, int on) {
            int all = 0;
            for (int i = 0; i < boats; i++) {
                all += landed(i, fish, n, sea, on);
            }
            return all;
        }

        private int caughtNow(int fish) {
            return caught(fish, sold[fish], waves, day);
        }

        private int coins(int fish, int n) {
            return laws[COINS].gives(asked[fish], trust, n);
        }

        private int promise(int fish, int n) {
            int paid = n * coins(fish, sold[fish]);
            purse = Math.min(MOST_MONEY, purse + paid);
            sold[fish] += n;
            return paid;
        }

        private int settle() {
            int missing = 0;
            for (int fish = 0; fish < FISH; fish++) {
                int less = Math.max(0, sold[fish] - caught(fish, sold[fish], waves, day));
                purse = Math.max(-MOST_MONEY, purse - 2 * less * asked[fish]);
                missing += less;
            }
            Arrays.fill(sold, 0);
            for (int i = 0; i < boats; i++) {
                if (fleet[i].lost == 0) {
                    purse = held(purse - fleet[i].eats(day), -MOST_MONEY, MOST_MONEY);
                }
            }
            owed = Math.min(MOST_MONEY, owed + missing);
            trust = held(missing == 0 ? trust + 1 : trust - 2, 0, MOST_TRUST);
            day++;
            return missing;
        }

        private int dayByDraws() {
            int fish = draw() % FISH;
            int n = draw() % 30;
            if (sold[fish] + n <= MOST_SOLD) {
                promise(fish, n);
            }
            waves = draw() % SEAS;
            return settle();
        }

        private int draw() {
            z = z * 1103515245 + 12345;
            return z >>> 8;
        }
    }

    /** What would be: nothing here changes the quay. */
    private static final class Thoughts {
        private static final int FARTHEST = 60;

        private static int safest(Quay quay, int fish) {
            for (int n = MOST_SOLD; n > 0; n--) {
                if (isSafe(quay, fish, n)) {
                    return n;
                }
            }
            return 0;
        }

        private static boolean isSafe(Quay quay, int fish, int n) {
            for (int sea = 0; sea < SEAS; sea++) {
                if (quay.caught(fish, n, sea, quay.day) < n) {
                    return false;
                }
            }
            return true;
        }

        private static int bestToSell(Quay quay, int fish) {
            int best = 0;
            int most = gain(quay, fish, 0);
            for (int n = 1; n <= MOST_SOLD; n++) {
                int gained = gain(quay, fish, n);
                if (gained > most) {
                    most = gained;
                    best = n;
                }
            }
            return best;
        }

        private static int gain(Quay quay, int fish, int n) {
            int all = SEAS * n * quay.coins(fish, 0);
            for (int sea = 0; sea < SEAS; sea++) {
                int less = Math.max(0, n - quay.caught(fish, n, sea, quay.day));
                all -= 2 * quay.asked[fish] * less;
            }
            return all;
        }

        private static boolean agreesWithItself(Quay quay, int fish, int n) {
            return quay.caught(fish, n, quay.waves, quay.day) == n;
        }

        private static int howManyAgree(Quay quay, int fish) {
            int many = 0;
            for (int n = 0; n <= MOST_SOLD; n++) {
                if (agreesWithItself(quay, fish, n)) {
                    many++;
                }
            }
            return many;
        }

        private static int leastThatAgrees(Quay quay, int fish) {
            for (int n = 0; n <= MOST_SOLD; n++) {
                if (agreesWithItself(quay, fish, n)) {
                    return n;
                }
            }
            return -1;
        }

        /** The set of BOATS; -1, if not even all together do. */
        private static int fewestBoats(Quay quay) {
            int best = -1;
            for (int set = 0; set < 1 << quay.boats; set++) {
                boolean fewer = best < 0 || Integer.bitCount(set) < Integer.bitCount(best);
                if (fewer && isEnough(quay, set)) {
                    best = set;
                }
            }
            return best;
        }

        private static boolean isEnough(Quay quay, int set) {
            for (int fish = 0; fish < FISH; fish++) {
                int all = 0;
                for (int i = 0; i < quay.boats; i++) {
                    if ((set >> i & 1) == 1) {
                        all += quay.landed(i, fish, quay.sold[fish], quay.waves, quay.day);
                    }
                }
                if (all < quay.sold[fish]) {
                    return false;
                }
            }
            return true;
        }

        /** -1, if it is not by the farthest day. */
        private static int daysUntil(Quay quay, int fish, int n) {
            for (int days = 0; days <= FARTHEST; days++) {
                if (quay.caught(fish, n, quay.waves, quay.day + days) >= n) {
                    return days;
                }
            }
            return -1;
        }

        private static int seasThatDo(Quay quay, int fish, int n) {
            int many = 0;
            for (int sea = 0; sea < SEAS; sea++) {
                if (quay.caught(fish, n, sea, quay.day) >= n) {
                    many++;
                }
            }
            return many;
        }

        private static int caughtInAllSeas(Quay quay, int fish) {
            int all = 0;
            for (int sea = 0; sea < SEAS; sea++) {
                all += quay.caught(fish, quay.sold[fish], sea, quay.day);
            }
            return all;
        }

        private static int seasThatFit(Quay quay, Sheet sheet) {
            int seas = 0;
            for (int sea = 0; sea < SEAS; sea++) {
                if (isSoBy(quay, sheet, sea)) {
                    seas |= 1 << sea;
                }
            }
            return seas;
        }

        private static boolean isSoBy(Quay quay, Sheet sheet, int sea) {
            if (sheet.length > FISH) {
                return false;
            }
            for (int fish = 0; fish < sheet.length; fish++) {
                if (quay.caught(fish, quay.sold[fish], sea, quay.day) != sheet.numbers[fish]) {
                    return false;
                }
            }
            return true;
        }

        /** Of so many tenths in lowest terms what is above (0) or below (1) the line. */
        private static int partOfTenths(int tenths, int part) {
            int by = 1;
            for (int d = 2; d <= SEAS; d++) {
                if (tenths % d == 0 && SEAS % d == 0) {
                    by = d;
                }
            }
            return (part == 0 ? tenths : SEAS) / by;
        }
    }

    /** What a USE gives. A TEXT is kept with each sign behind what it joins, numbers as they are. */
    private static final class Law {
        private static final int MOST_GIVEN = 99;

        private final int[] code = new int[TAPE];
        private final int[] pile = new int[TAPE];
        private int length;
        private boolean stands;

        private void take(int[] from, int many) {
            length = held(many, 0, Math.min(TAPE, from.length));
            System.arraycopy(from, 0, code, 0, length);
            stands = true;
        }

        private void takeFrom(Law other) {
            take(other.code, other.length);
            stands = other.stands;
        }

        private int gives(int a, int b, int c) {
            if (!stands) {
                return held(a, 0, MOST_GIVEN);
            }
            int top = 0;
            for (int i = 0; i < length; i++) {
                int sign = code[i];
                if (sign >= Reader.THIRD_NAME && top < TAPE) {
                    pile[top] = sign >= 0 ? sign : sign == -1 ? a : sign == -2 ? b : c;
                    top++;
                } else if (sign == -'!' && top >= 1) {
                    pile[top - 1] = pile[top - 1] == 0 ? 1 : 0;
                } else if (top >= 2) {
                    top--;
                    pile[top - 1] = joined(-sign, pile[top - 1], pile[top]);
                }
            }
            return top > 0 ? held(pile[0], 0, MOST_GIVEN) : 0;
        }

        private static int joined(int sign, int left, int right) {
            switch (sign) {
                case '|':
                    return left != 0 || right != 0 ? 1 : 0;
                case '&':
                    return left != 0 && right != 0 ? 1 : 0;
                case '<':
                    return left < right ? 1 : 0;
                case '=':
                    return left == right ? 1 : 0;
                case '>':
                    return left > right ? 1 : 0;
                case '+':
                    return left + right;
                case '-':
                    return left - right;
                case '*':
                    return left * right;
                case '/':
                    return right == 0 ? 0 : left / right;
                default:
                    return right == 0 ? 0 : left % right;
            }
        }
    }

    /** Reads a TEXT; it stops at the first byte with which none goes on. */
    private static final class Reader {
        private static final int NO_FAULT = -1;
        private static final int THIRD_NAME = -3;
        private static final int END = -1;
        private static final int MOST_OPEN = 5;
        private static final int MOST_DIGITS = 4;
        /** Levels, as in the document: 0 T, 1 A, 2 B, 3 S, 4 P, 5 Q. */
        private static final int COMPARISON = 2;
        private static final int ITEM = 5;

        private final int[] code = new int[TAPE];
        private int written;
        private final int[] tape = new int[TAPE];
        private int end;
        private int place;
        private int use;

        private int faultIn(int[] bytes, int many, int ofUse) {
            end = held(many, 0, Math.min(TAPE, bytes.length));
            System.arraycopy(bytes, 0, tape, 0, end);
            use = ofUse;
            place = 0;
            written = 0;
            return readLevel(0, 0) && place == end ? NO_FAULT : place;
        }

        private boolean readLevel(int level, int open) {
            if (level >= ITEM) {
                return readItem(open);
            }
            if (!readLevel(level + 1, open)) {
                return false;
            }
            int most = level == COMPARISON ? 1 : TAPE;
            for (int turn = 0; turn < most && levelOf(next()) == level; turn++) {
                int sign = next();
                place++;
                if (!readLevel(level + 1, open)) {
                    return false;
                }
                write(-sign);
            }
            return true;
        }

        private boolean readItem(int open) {
            int sign = next();
            if (isDigit(sign)) {
                write(readNumber());
                return true;
            }
            int name = nameOf(sign);
            if (name < 0) {
                place++;
                write(name);
                return true;
            }
            if (open >= MOST_OPEN || (sign != '!' && sign != '(')) {
                return false;
            }
            place++;
            return sign == '!' ? readDenied(open + 1) : readBracketed(open + 1);
        }

        private boolean readDenied(int open) {
            if (!readItem(open)) {
                return false;
            }
            write(-'!');
            return true;
        }

        private boolean readBracketed(int open) {
            if (!readLevel(0, open) || next() != ')') {
                return false;
            }
            place++;
            return true;
        }

        private int readNumber() {
            int v = 0;
            for (int digits = 0; digits < MOST_DIGITS && isDigit(next()); digits++) {
                v = v * 10 + next() - '0';
                place++;
            }
            return v;
        }

        private int next() {
            return place < end ? tape[place] : END;
        }

        private void write(int sign) {
            if (written < TAPE) {
                code[written] = sign;
                written++;
            }
        }

        private static boolean isDigit(int sign) {
            return sign >= '0' && sign <= '9';
        }

        /** -1, -2, -3 for the NAMES of the USE in their order; 0, if it is none of them. */
        private int nameOf(int sign) {
            for (int i = 0; i < NAMES_OF_A_USE; i++) {
                int at = use * NAMES_OF_A_USE + i;
                if (at < NAMES.length() && NAMES.charAt(at) == sign) {
                    return -1 - i;
                }
            }
            return 0;
        }

        private static int levelOf(int sign) {
            switch (sign) {
                case '|':
                    return 0;
                case '&':
                    return 1;
                case '<':
                case '=':
                case '>':
                    return COMPARISON;
                case '+':
                case '-':
                    return 3;
                case '*':
                case '/':
                case '%':
                    return 4;
                default:
                    return ITEM;
            }
        }
    }

    /** The VOICES of a BOAT, and THE TRACE of the latest one, also if it parted. */
    private static final class Voices {
        private static final int VOICES = 4;
        private static final int CALLS = 0;
        private static final int HAULS = 1;
        private static final int LETS = 2;
        private static final int PARTS = 3;
        private static final int DEEPEST = 30;
        /** By KIND and VOICE the BODY's number; 0, if the KIND has none of its own. */
        private static final int[] BODIES = {
            10, 11, 12, 13,
            20, 0, 0, 21,
            0, 30, 0, 0,
            0, 0, 40, 0,
            50, 0, 51, 0,
            0, 60, 0, 0,
            70, 71, 0, 0,
        };

        private final int[] trace = new int[TRACE];
        private int traced;
        private boolean parted;
        private int kind;
        private int k;
        private int m;

        private int hear(Boat boat, int number, int voice, int x) {
            kind = boat.kind;
            m = boat.m;
            k = number;
            traced = 0;
            parted = false;
            return speak(kind, voice, x, 0);
        }

        /** The BODY for a VOICE from a KIND on upwards; once parted none begins, as PARTED is all the answer. */
        private int speak(int from, int voice, int x, int depth) {
            if (parted) {
                return 0;
            }
            int of = from;
            for (int up = 0; up < KINDS && of > 0 && BODIES[of * VOICES + voice] == 0; up++) {
                of = ABOVE[of];
            }
            if (of < 0 || depth > DEEPEST) {
                return 0;
            }
            int body = BODIES[of * VOICES + voice];
            if (traced < TRACE) {
                trace[traced] = body;
                traced++;
            }
            return say(body, ABOVE[of], x, depth + 1);
        }

        private int say(int body, int above, int x, int depth) {
            switch (body) {
                case 10:
                    return x + k;
                case 11:
                    return speak(kind, CALLS, x, depth) * 2;
                case 12:
                    return speak(kind, HAULS, x, depth) - m;
                case 13:
                    return part(x);
                case 20:
                    return speak(above, CALLS, x, depth) - 4;
                case 21:
                    return speak(above, PARTS, x, depth) + speak(kind, HAULS, 1, depth);
                case 30:
                    return 0 - speak(above, HAULS, x, depth);
                case 40:
                    return speak(above, LETS, x / 2, depth);
                case 50:
                    return speak(above, CALLS, x, depth) * 3;
                case 51:
                    return speak(above, LETS, x, depth) ^ k;
                case 60:
                    return speak(above, HAULS, x + 1, depth);
                case 71:
                    return speak(above, HAULS, x, depth) + m;
                default:
                    return 9;
            }
        }

        private int part(int x) {
            int by = m - k;
            if (by == 0) {
                parted = true;
                return 0;
            }
            return x / by;
        }
    }

    /** A row of numbers; of no bits, it is missing. */
    private static final class Sheet {
        private final int[] numbers = new int[NUMBERS];
        private int bits;
        private int length;

        private void lay(int ofBits, int n) {
            bits = ofBits;
            length = n;
            Arrays.fill(numbers, 0);
        }

        private boolean isMissing() {
            return bits == 0;
        }

        /** Whether n numbers stand there from number i on; nothing here may wrap. */
        private boolean has(int i, int n) {
            return i >= 0 && n >= 0 && n <= length && i <= length - n;
        }

        private int lowestBits(int v) {
            return bits == 32 ? v : bits == 16 ? v & 65535 : v & 255;
        }
    }
}
