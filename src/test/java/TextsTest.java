/** Promises 10 to 13: THE TAPE, TEXTS and what they give. */
public final class TextsTest {
    private static final Due due = new Due("TextsTest");

    public static void main(String[] args) {
        feed();
        text();
        faults();
        faultsOfDepth();
        untell();
        law();
        values();
        due.end();
    }

    private static void feed() {
        due.promise(10);
        PromisedFish x = new PromisedFish();
        due.is("feed(0, 0)", x.feed(0, 0), Due.BEYOND);
        due.is("feed(0, 9)", x.feed(0, 9), Due.BEYOND);
        due.is("feed(0, -1)", x.feed(0, -1), Due.BEYOND);
        due.is("feed(0, min)", x.feed(0, Integer.MIN_VALUE), Due.BEYOND);
        due.is("count(6)", x.count(6), 0);
        // the lowest byte first: "1+2*3-45"
        due.is("feed of eight bytes", x.feed(0x35342d332a322b31L, 8), 8);
        due.is("text(0)", x.text(0), 1);
        due.is("law(0, ..)", x.law(0, 0, 0, 0), 0);
        due.is("feed of seven of eight", x.feed(0x35342d332a322b31L, 7), 7);
        due.is("text(0)", x.text(0), 1);
        due.is("law(0, ..)", x.law(0, 0, 0, 0), 3);
        due.is("feed('7')", x.feed('7', 1), 1);
        due.is("feed('8')", x.feed(0xff38L, 1), 2);
        due.is("text(0)", x.text(0), 1);
        due.is("law(0, ..)", x.law(0, 0, 0, 0), 78);
        for (int i = 1; i <= 7; i++) {
            due.is("feed to " + 8 * i, x.feed(-1L, 8), 8 * i);
        }
        due.is("feed to 61", x.feed(0, 5), Due.FULL);
        due.is("count(6)", x.count(6), 56);
        due.is("feed(0, 9), nearly full", x.feed(0, 9), Due.BEYOND);
        due.is("feed to 60", x.feed(0, 4), 60);
        due.is("feed to 61", x.feed(0, 1), Due.FULL);
        due.is("told(4)", x.told(4), 2);
        due.is("count(6)", x.count(6), 60);
        due.is("text(0)", x.text(0), -10);
        due.is("count(6)", x.count(6), 0);
        due.is("feed to 1", x.feed(0, 1), 1);
    }

    private static void text() {
        due.promise(11);
        PromisedFish x = new PromisedFish();
        Due.feed(x, "c+s");
        due.is("text(2)", x.text(2), Due.BEYOND);
        due.is("text(-1)", x.text(-1), Due.BEYOND);
        due.is("THE TAPE stays", x.count(6), 3);
        due.is("text(0)", x.text(0), 1);
        due.is("THE TAPE is empty", x.count(6), 0);
        due.is("law(0, 5, 6, 7)", x.law(0, 5, 6, 7), 11);
        due.is("text of nothing", x.text(0), -10);
        due.is("the one ahead stays", x.law(0, 5, 6, 7), 11);
        due.is("text of c+", Due.text(x, 0, "c+"), -12);
        due.is("THE TAPE is empty", x.count(6), 0);
        due.is("the one ahead stays", x.law(0, 5, 6, 7), 11);
        due.is("in place of one ahead", Due.text(x, 0, "n"), 1);
        due.is("law(0, 5, 6, 7)", x.law(0, 5, 6, 7), 7);
        due.is("the other USE has none", x.untell(1), 0);
        due.is("text(1)", Due.text(x, 1, "p*t-n"), 1);
        due.is("law(1, 5, 6, 7)", x.law(1, 5, 6, 7), 23);
        due.is("law(0, 5, 6, 7)", x.law(0, 5, 6, 7), 7);
        due.is("a FAULT is no ERROR", x.told(1), 2);
        String long60 = "c+s+n+c+s+n+c+s+n+c+s+n+c+s+n+c+s+n+c+s+n+c+s+n+c+s+n+c+s+nn";
        due.is("60 bytes, the last one wrong", Due.text(x, 0, long60), -69);
        due.is("60 bytes, one too few", Due.text(x, 0, long60.substring(0, 59) + "+"), -70);
        due.is("60 bytes", Due.text(x, 0, long60.substring(0, 57) + "+99"), 1);
        due.is("law(0, 1, 0, 0)", x.law(0, 1, 0, -1), 99);
        due.is("law(0, -9, 0, 0)", x.law(0, -9, 0, 0), 9);
    }

    private static void fault(int use, String text, int fault) {
        PromisedFish x = new PromisedFish();
        due.is("text(" + use + ") of " + text, Due.text(x, use, text), fault < 0 ? 1 : -10 - fault);
        due.is("untell(" + use + ") after " + text, x.untell(use), fault < 0 ? 1 : 0);
    }

    private static void faults() {
        due.promise(11);
        String[] right = {"c", "s", "n", "0", "0000", "9999", "!c", "!!c", "(c)", "((c))", "c|s", "c&s", "c<s", "c=s", "c>s",
            "c+s", "c-s", "c*s", "c/s", "c%s", "c<s&s<n", "c<s|s=n", "(c<s)<n", "c=(s=n)", "!(c)", "!c+!s", "1|2&3<4+5*6%7/8"};
        for (String text : right) {
            fault(0, text, -1);
            fault(1, text.replace('c', 'p').replace('s', 't'), -1);
        }
        Object[][] wrong = {
            {"", 0}, {" c", 0}, {"c ", 1}, {"c +s", 1}, {"+c", 0}, {"-1", 0}, {"cc", 1}, {"c1", 1}, {"1c", 1}, {"12345", 4},
            {"00000", 4}, {"c+12345", 6}, {"1234c", 4}, {"C", 0}, {"p", 0}, {"t", 0}, {"c+t", 2}, {"c<s<n", 3}, {"c<s=n", 3},
            {"c>s>n", 3}, {"c=s+1>n", 5}, {"c<(s<n)<1", 7}, {"c<<s", 2}, {"c==s", 2}, {"c||s", 2}, {"c&&s", 2}, {"c!", 1},
            {"c!=s", 1}, {"(", 1}, {"()", 1}, {"(c", 2}, {"(c))", 3}, {"c)", 1}, {"(c)(s)", 3}, {"(c)s", 3}, {"(c)1", 3},
            {"!", 1}, {"!+", 1}, {"!)", 1}, {"c|", 2}, {"c&", 2}, {"c<", 2}, {"c*", 2}, {"(c+", 3}, {"(c+s", 4}, {"c^s", 1},
            {"c~", 1}, {"c\u0000", 1}, {"\u00ff", 0}, {"c+\u00e3", 2}, {"(c<s", 4}, {"(c<s<", 4}, {"n;", 1}, {"n:", 1}, {"n@", 1},
        };
        for (Object[] row : wrong) {
            fault(0, (String) row[0], (Integer) row[1]);
        }
        fault(1, "c", 0);
        fault(1, "s", 0);
        fault(1, "p+t+n+c", 6);
    }

    private static void faultsOfDepth() {
        due.promise(11);
        fault(0, "!!!!!c", -1);
        fault(0, "!!!!!!c", 5);
        fault(0, "(((((c)))))", -1);
        fault(0, "((((((c))))))", 5);
        fault(0, "!(!(!c))", -1);
        fault(0, "!(!(!(c)))", 5);
        fault(0, "!(!(!!c))", 5);
        fault(0, "!!!!!c+!!!!!s", -1);
        fault(0, "(((((c)))))+(((((s)))))", -1);
        fault(0, "((((!c+!s+!n))))", -1);
        fault(0, "((((!(c)))))", 5);
        fault(0, "((((!c+(s)))))", -1);
        fault(0, "((((!c+((s))))))", 8);
        fault(0, "!!!!(c+s)+!!!!!1", -1);
        fault(0, "!!!!(c+!s)", 7);
        fault(0, "(((((", 5);
        fault(0, "!!!!!", 5);
        fault(0, "((((((", 5);
    }

    private static void untell() {
        due.promise(12);
        PromisedFish x = new PromisedFish();
        due.is("untell(2)", x.untell(2), Due.BEYOND);
        due.is("untell(-1)", x.untell(-1), Due.BEYOND);
        due.is("untell(0)", x.untell(0), 0);
        Due.text(x, 0, "7");
        Due.text(x, 1, "8");
        due.is("law(0, 1, 2, 3)", x.law(0, 1, 2, 3), 7);
        due.is("untell(0)", x.untell(0), 1);
        due.is("untell(0)", x.untell(0), 0);
        due.is("law(0, 1, 2, 3)", x.law(0, 1, 2, 3), 1);
        due.is("law(1, 1, 2, 3)", x.law(1, 1, 2, 3), 8);
        due.is("untell(1)", x.untell(1), 1);
        due.is("law(1, 1, 2, 3)", x.law(1, 1, 2, 3), 1);
        due.is("told(1)", x.told(1), 2);
    }

    private static void law() {
        due.promise(13);
        PromisedFish x = new PromisedFish();
        due.is("law(-1, 0, 0, 0)", x.law(-1, 0, 0, 0), Due.BEYOND);
        due.is("law(2, 0, 0, 0)", x.law(2, 0, 0, 0), Due.BEYOND);
        int[][] held = {{-1, 0}, {0, 0}, {1, 1}, {99, 99}, {100, 99}, {Integer.MIN_VALUE, 0}, {Integer.MAX_VALUE, 99}};
        for (int use = 0; use < 2; use++) {
            for (int[] row : held) {
                due.is("law without a TEXT, of " + row[0], x.law(use, row[0], 50, 50), row[1]);
            }
        }
        Due.text(x, 0, "s");
        Due.text(x, 1, "t");
        for (int use = 0; use < 2; use++) {
            for (int[] row : held) {
                due.is("law with a TEXT, of " + row[0], x.law(use, 50, row[0], 50), row[1]);
            }
        }
        Due.text(x, 0, "c*c+s*10+n");
        due.is("law in the order of its NAMES", x.law(0, 7, 2, 3), 72);
        Due.text(x, 1, "p*p+t*10+n");
        due.is("law in the order of its NAMES", x.law(1, 7, 2, 3), 72);
        x.boat(5);
        x.lose(0, 1);
        due.is("law is of no BOAT", x.law(0, 1, 1, 1), 12);
    }

    private static void value(String text, int a, int b, int c, int want) {
        PromisedFish x = new PromisedFish();
        due.is("text of " + text, Due.text(x, 0, text), 1);
        due.is(text + " of " + a + ", " + b + ", " + c, x.law(0, a, b, c), want);
    }

    private static void values() {
        due.promise(13);
        int min = Integer.MIN_VALUE;
        int max = Integer.MAX_VALUE;
        value("1+2*3", 0, 0, 0, 7);
        value("(1+2)*3", 0, 0, 0, 9);
        value("9-3-2", 0, 0, 0, 4);
        value("80/4/2", 0, 0, 0, 10);
        value("80/4*2", 0, 0, 0, 40);
        value("17%7*2", 0, 0, 0, 6);
        value("2*17%7", 0, 0, 0, 6);
        value("c/s", 7, 0, 0, 0);
        value("c%s", 7, 0, 0, 0);
        value("50+c/s", -7, 2, 0, 47);
        value("50+c%s", -7, 2, 0, 49);
        value("50+c%s", 7, -2, 0, 51);
        value("50+c/s", 7, -2, 0, 47);
        value("c/s+7", min, -1, 0, 0);
        value("c%s+7", min, -1, 0, 7);
        value("c/s=c", min, -1, 0, 1);
        value("c+1<0", max, 0, 0, 1);
        value("c-1>0", min, 0, 0, 1);
        value("c*c", 1 << 16, 0, 0, 0);
        value("c*s%100", 65537, 65535, 0, 0);
        value("0-c*s%100", 65537, 65535, 0, 1);
        value("c<s", -1, 0, 0, 1);
        value("c<s", 0, 0, 0, 0);
        value("c>s", max, min, 0, 1);
        value("c>s", 0, 0, 0, 0);
        value("c=s", 5, 5, 0, 1);
        value("c=s", 5, 4, 0, 0);
        value("c|s", 0, 0, 0, 0);
        value("c|s", 0, -7, 0, 1);
        value("c|s", 4, 0, 0, 1);
        value("c&s", 2, 4, 0, 1);
        value("c&s", 2, 0, 0, 0);
        value("c&s", 0, 2, 0, 0);
        value("1|0&0", 0, 0, 0, 1);
        value("(1|0)&0", 0, 0, 0, 0);
        value("3&2=2", 0, 0, 0, 1);
        value("2+(3&2)=2", 0, 0, 0, 0);
        value("!c", 0, 0, 0, 1);
        value("!c", -3, 0, 0, 0);
        value("!!c", -3, 0, 0, 1);
        value("!c+5", 0, 0, 0, 6);
        value("!(c+5)", -5, 0, 0, 1);
        value("1<2+3", 0, 0, 0, 1);
        value("1+(1<2)", 0, 0, 0, 2);
        value("0007", 0, 0, 0, 7);
        value("9999/101", 0, 0, 0, 99);
        value("9999/102", 0, 0, 0, 98);
        value("c+s+n", 1, 2, 4, 7);
        value("n-s-c", 1, 2, 40, 37);
        value("(1+(2+(3+(4+(5+c)))))", 6, 0, 0, 21);
        value("1|1&1<1+1*(1|1&1<1+1*(1|1&1<1+1*(1|1&1<1+1*(c))))", 5, 0, 0, 1);
    }
}
