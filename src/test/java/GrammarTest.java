import java.util.ArrayList;
import java.util.HashSet;
import java.util.List;
import java.util.Random;
import java.util.Set;

/**
 * Promise 11: the FAULT, held against the rules T to Q as the document writes them. A chart of all that may stand
 * at each place says with which bytes a TEXT goes on; nothing here knows how the class or the model reads.
 */
public final class GrammarTest {
    private static final int MOST_OPEN = 5;
    private static final int TAPE = 60;
    private static final String SIGNS = "|&<=>+-*/%!()";
    private static final Due due = new Due("GrammarTest");
    private static final List<Rule> RULES = new ArrayList<>();

    private static PromisedFish fish = new PromisedFish();
    private static int calls;

    /** What one of the rules' letters may be; the number behind it tells how many of ! and ( are open. */
    record Rule(String of, String[] to) { }

    /** A rule, how much of it stands, and the place from which on. */
    record Item(Rule rule, int stands, int from) {
        String next() {
            return stands < rule.to.length ? rule.to[stands] : "";
        }
    }

    public static void main(String[] args) {
        for (int open = 0; open <= MOST_OPEN; open++) {
            rulesWithOpen(open);
        }
        allShort(0, "c1|<+!()x", 6);
        allShort(1, "p&=-*", 6);
        opened();
        due.promise(11);
        for (int run = 0; run < 1500; run++) {
            drawn(new Random(run), run % 2);
        }
        due.end();
    }

    private static void rule(String of, String... to) {
        RULES.add(new Rule(of, to));
    }

    private static void rulesWithOpen(int n) {
        rule("T" + n, "A" + n);
        rule("T" + n, "T" + n, "|", "A" + n);
        rule("A" + n, "B" + n);
        rule("A" + n, "A" + n, "&", "B" + n);
        rule("B" + n, "S" + n);
        for (String sign : "< = >".split(" ")) {
            rule("B" + n, "S" + n, sign, "S" + n);
        }
        rule("S" + n, "P" + n);
        for (String sign : "+ -".split(" ")) {
            rule("S" + n, "S" + n, sign, "P" + n);
        }
        rule("P" + n, "Q" + n);
        for (String sign : "* / %".split(" ")) {
            rule("P" + n, "P" + n, sign, "Q" + n);
        }
        rule("Q" + n, "digit");
        rule("Q" + n, "digit", "digit");
        rule("Q" + n, "digit", "digit", "digit");
        rule("Q" + n, "digit", "digit", "digit", "digit");
        rule("Q" + n, "name");
        if (n < MOST_OPEN) {
            rule("Q" + n, "!", "Q" + (n + 1));
            rule("Q" + n, "(", "T" + (n + 1), ")");
        }
    }

    private static String signOf(char ch, int use) {
        if (ch >= '0' && ch <= '9') {
            return "digit";
        }
        return (use == 0 ? "csn" : "ptn").indexOf(ch) >= 0 ? "name" : String.valueOf(ch);
    }

    /** Ends what stands whole, and begins what may come next, until nothing more is found. */
    private static Set<Item> closed(List<Set<Item>> chart, Set<Item> first, int place) {
        Set<Item> found = new HashSet<>(first);
        List<Item> waiting = new ArrayList<>(found);
        for (int i = 0; i < waiting.size(); i++) {
            Item item = waiting.get(i);
            List<Item> more = new ArrayList<>();
            if (item.next().isEmpty()) {
                for (Item above : chart.get(item.from)) {
                    if (above.next().equals(item.rule.of)) {
                        more.add(new Item(above.rule, above.stands + 1, above.from));
                    }
                }
            } else {
                for (Rule rule : RULES) {
                    if (rule.of.equals(item.next())) {
                        more.add(new Item(rule, 0, place));
                    }
                }
            }
            for (Item one : more) {
                if (found.add(one)) {
                    waiting.add(one);
                }
            }
        }
        return found;
    }

    private static List<Set<Item>> begun() {
        List<Set<Item>> chart = new ArrayList<>();
        Set<Item> first = new HashSet<>();
        for (Rule rule : RULES) {
            if (rule.of.equals("T0")) {
                first.add(new Item(rule, 0, 0));
            }
        }
        chart.add(closed(chart, first, 0));
        return chart;
    }

    /** Whether a TEXT goes on with this byte; then the chart does, too. */
    private static boolean goesOn(List<Set<Item>> chart, char ch, int use) {
        String sign = signOf(ch, use);
        Set<Item> first = new HashSet<>();
        for (Item item : chart.get(chart.size() - 1)) {
            if (item.next().equals(sign)) {
                first.add(new Item(item.rule, item.stands + 1, item.from));
            }
        }
        if (first.isEmpty()) {
            return false;
        }
        chart.add(closed(chart, first, chart.size()));
        return true;
    }

    private static boolean isWhole(List<Set<Item>> chart) {
        for (Item item : chart.get(chart.size() - 1)) {
            if (item.rule.of.equals("T0") && item.from == 0 && item.next().isEmpty()) {
                return true;
            }
        }
        return false;
    }

    /** An object answers for 512 calls alone. */
    private static void held(int use, String text, int want) {
        if (calls + text.length() + 1 > 512) {
            fish = new PromisedFish();
            calls = 0;
        }
        calls += text.length() + 1;
        due.is("text(" + use + ") of " + text, Due.text(fish, use, text), want);
    }

    private static int dueOf(String text, int use) {
        List<Set<Item>> chart = begun();
        for (int i = 0; i < text.length(); i++) {
            if (!goesOn(chart, text.charAt(i), use)) {
                return -10 - i;
            }
        }
        return isWhole(chart) ? 1 : -10 - text.length();
    }

    /** Each text of these signs that is not longer; behind a FAULT there is nothing new. */
    private static void allShort(int use, String signs, int most) {
        due.promise(11);
        allBehind(begun(), "", use, signs, most);
    }

    private static void allBehind(List<Set<Item>> chart, String text, int use, String signs, int more) {
        held(use, text, isWhole(chart) ? 1 : -10 - text.length());
        for (char ch : (more > 0 ? signs : "").toCharArray()) {
            if (goesOn(chart, ch, use)) {
                allBehind(chart, text + ch, use, signs, more - 1);
                chart.remove(chart.size() - 1);
            } else {
                held(use, text + ch + "c", -10 - text.length());
            }
        }
    }

    /** Each row of six of ! and (, with what may close it. */
    private static void opened() {
        for (int set = 0; set < 64; set++) {
            StringBuilder row = new StringBuilder();
            for (int bit = 0; bit < 6; bit++) {
                row.append((set >> bit & 1) == 0 ? '!' : '(');
            }
            held(0, row.toString(), -15);
            for (int open = 1; open <= MOST_OPEN; open++) {
                String ahead = row.substring(0, open) + "c";
                String closers = ahead.replaceAll("[^(]", "").replace('(', ')');
                for (String behind : new String[] {"", closers, closers + ")", closers + "+!(n)", "+!c" + closers, "<(s)" + closers + "<1"}) {
                    held(0, ahead + behind, dueOf(ahead + behind, 0));
                }
            }
        }
    }

    /** A text that goes on as far as it may, but for a byte now and then. */
    private static void drawn(Random draws, int use) {
        String all = SIGNS + "0123456789" + (use == 0 ? "csn" : "ptn");
        int length = draws.nextInt(TAPE + 1);
        boolean strays = draws.nextBoolean();
        StringBuilder text = new StringBuilder();
        List<Set<Item>> chart = begun();
        for (int tries = 0; tries < 2000 && text.length() < length; tries++) {
            char ch = all.charAt(draws.nextInt(all.length()));
            if (goesOn(chart, ch, use)) {
                text.append(ch);
            } else if (strays && draws.nextInt(60) == 0) {
                text.append(draws.nextBoolean() ? ch : (char) draws.nextInt(256));
                break;
            }
        }
        held(use, text.toString(), dueOf(text.toString(), use));
    }
}
