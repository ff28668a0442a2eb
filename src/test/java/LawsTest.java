import java.util.ArrayList;
import java.util.List;

/**
 * What follows from the document's words for every TEXT, asked of many: ways that go down step by
 * step, kinds above and below that are the least and the greatest, VALUES written out one by one.
 */
public final class LawsTest extends Checks {
    private static final int TEXTS = 400;
    private static final int MOST_WRITTEN = 1500;
    private static final int LARGEST_WRITTEN = 5;

    private final String text;
    private final KindNets x;
    private final Dice dice;

    private LawsTest(String text, Dice dice) {
        this.text = text;
        this.dice = dice;
        x = laid(text);
    }

    public static void main(String[] args) {
        for (int seed = 0; seed < TEXTS; seed++) {
            Dice dice = new Dice(1000003L + seed);
            String text = new TextMaker(dice).text();
            if (text.length() <= 100) {
                new LawsTest(text, dice).goThrough();
            }
        }
        close("what follows from the document holds");
    }

    private void goThrough() {
        faultsOfBeginnings();
        if (x.take() < 1) {
            return;
        }
        standingGoesOn();
        waysGoDown();
        valuesWrittenOut();
        for (int time = 0; time < 6; time++) {
            joinedIsNearest(dice.below(x.told(1)), dice.below(x.told(1)), time % 2);
        }
        standingGoesOn();
        waysGoDown();
    }

    private void holds(String law, boolean held) {
        due(law + " in " + text, held ? 1 : 0, 1);
    }

    // ---- 1 texts

    /** Every beginning up to THE FAULT is none or lacks signs; the one with the sign there does not go on. */
    private void faultsOfBeginnings() {
        int fault = x.fault();
        for (int many = 0; many <= text.length(); many++) {
            int begun = laid(text.substring(0, many)).fault();
            if (fault == NONE || many <= fault) {
                holds("the first " + many + " signs go on", begun == NONE || begun == many);
            } else {
                due("fault of the first " + many + " signs of " + text, begun, fault);
            }
        }
    }

    // ---- 2 standing

    private void standingGoesOn() {
        int nodes = x.told(1);
        int pairs = 0;
        for (int i = 0; i < nodes; i++) {
            holds(i + " may stand for itself", x.may(i, i) == 1);
            for (int k = 0; k < nodes; k++) {
                pairs += i != k ? x.may(i, k) : 0;
                due("alike " + i + " " + k + " in " + text, x.alike(i, k), x.may(i, k) * x.may(k, i));
                int far = dice.below(nodes);
                holds("from " + i + " by " + k + " to " + far,
                        x.may(i, k) == 0 || x.may(k, far) == 0 || x.may(i, far) == 1);
            }
        }
        due("pairs in " + text, x.told(4), pairs);
    }

    private void waysGoDown() {
        for (int time = 0; time < 20; time++) {
            int i = dice.below(x.told(1));
            int k = dice.below(x.told(1));
            int steps = x.way(i, k, -1);
            due("a way just if it may not", steps == NONE ? 1 : 0, x.may(i, k));
            if (steps != NONE) {
                wayGoesDown(i, k, steps);
            }
        }
    }

    private void wayGoesDown(int i, int k, int steps) {
        int one = i;
        int other = k;
        for (int j = 0; j < steps; j++) {
            int step = x.way(i, k, j);
            due("the first step of a shortest way in " + text, step, firstStep(one, other));
            int part = step < 8 ? step : step == 10 ? 1 : 0;
            int next = x.node(one, part);
            int nextOther = x.node(other, part);
            one = step == 9 ? nextOther : next;
            other = step == 9 ? next : nextOther;
        }
        due("behind the last step", x.way(i, k, steps), NONE);
        due("the end of a way in " + text, x.end(i, k), 100 * one + other);
        due("no step more in " + text, firstStep(one, other), NONE);
    }

    /** The lowest step behind which the way is one step shorter; NONE: the two do not fit by themselves. */
    private int firstStep(int i, int k) {
        if (!fitByThemselves(i, k)) {
            return NONE;
        }
        int fewest = x.way(i, k, -1);
        int first = NONE;
        for (int part = 7; part >= 0; part--) {
            int one = x.node(i, part);
            int other = x.node(k, part);
            if (one >= 0 && other >= 0) {
                boolean turned = x.node(i, -1) == '>' && part == 0;
                int behind = turned ? x.way(other, one, -1) : x.way(one, other, -1);
                holds("no shorter way behind " + i + " " + k, behind == NONE || behind >= fewest - 1);
                first = behind == fewest - 1 ? part : first;
            }
        }
        return first == NONE ? NONE : x.node(i, -1) == '*' ? 8 : x.node(i, -1) == '>' ? 9 + first : first;
    }

    private boolean fitByThemselves(int i, int k) {
        int sign = x.node(i, -1);
        if (sign == '!' || x.node(k, -1) == '.') {
            return true;
        }
        boolean fit = sign == x.node(k, -1);
        for (int part = 0; part < 8; part++) {
            boolean mine = x.node(i, part) != NONE;
            boolean its = x.node(k, part) != NONE;
            fit &= mine == its || (sign == '{' ? mine : its);
        }
        return fit;
    }

    // ---- 3 above, below

    private void joinedIsNearest(int i, int k, int what) {
        int before = x.told(1);
        int joined = x.join(i, k, what);
        if (joined == FULL) {
            due("nodes after " + text, x.told(1), before);
            return;
        }
        String call = "join " + i + " " + k + " " + what;
        holds(call + " of the first", (what == 0 ? x.may(i, joined) : x.may(joined, i)) == 1);
        holds(call + " of the second", (what == 0 ? x.may(k, joined) : x.may(joined, k)) == 1);
        for (int far = 0; far < x.told(1); far++) {
            boolean both = what == 0 ? x.may(i, far) + x.may(k, far) == 2 : x.may(far, i) + x.may(far, k) == 2;
            boolean farther = (what == 0 ? x.may(joined, far) : x.may(far, joined)) == 1;
            holds(call + " is nearer than " + far, !both || farther);
        }
        List<Integer> needed = new ArrayList<>();
        gatherMade(joined, before, needed);
        due("needed by " + call + " in " + text, needed.size(), x.told(1) - before);
        for (int at = 0; at < needed.size(); at++) {
            due("numbered as needed by " + call + " in " + text, needed.get(at), before + at);
        }
    }

    private void gatherMade(int node, int before, List<Integer> needed) {
        if (node < before || needed.contains(node)) {
            return;
        }
        needed.add(node);
        for (int part = 0; part < 8; part++) {
            gatherMade(x.node(node, part), before, needed);
        }
    }

    // ---- 4 values

    /** All VALUES of a SIZE are written out, where they are not too many, and counted one by one. */
    private void valuesWrittenOut() {
        for (int node = 0; node < x.told(1); node++) {
            int least = NONE;
            for (int size = 1; size <= 12; size++) {
                int many = x.count(node, size);
                least = least == NONE && many > 0 ? size : least;
                if (size <= LARGEST_WRITTEN && many <= MOST_WRITTEN) {
                    List<String> all = written(node, size);
                    due("count of " + node + " by " + size + " in " + text, many, all == null ? many : all.size());
                    readSome(all, node, size);
                }
            }
            holds("least of " + node, least == NONE ? x.least(node) == NONE || x.least(node) > 12 : x.least(node) == least);
        }
    }

    private void readSome(List<String> all, int node, int size) {
        for (int time = 0; all != null && time < 3 && time < all.size(); time++) {
            String value = all.get(dice.below(all.size()));
            lay(x, value);
            due("slip of " + value, x.slip(), NONE);
            due("size of " + value, x.size(), size);
            due(value + " of " + node + " in " + text, x.fits(node), NONE);
            for (int k = 0; k < x.told(1); k++) {
                holds(value + " of " + k + " too", x.may(node, k) == 0 || x.fits(k) == NONE);
            }
        }
    }

    /** Null: there are too many. */
    private List<String> written(int node, int size) {
        List<String> all = new ArrayList<>();
        switch (x.node(node, -1)) {
            case 'n':
                return size == 1 ? List.of("0123456789".split("")) : all;
            case 't':
                return size == 1 ? List.of("T", "F") : all;
            case 's':
                for (char letter = 'a'; size == 1 && letter <= 'z'; letter++) {
                    all.add("$" + letter);
                }
                return all;
            case '{':
                return closed(rows(node, 0, size - 1), "{", "}");
            case '[':
                for (int part = 0; part < 8; part++) {
                    List<String> cases = x.node(node, part) == NONE || size == 1 ? all : written(x.node(node, part), size - 1);
                    if (cases == null) {
                        return null;
                    }
                    if (cases != all) {
                        all.addAll(closed(cases, "[" + (char) ('a' + part), "]"));
                    }
                }
                return all;
            case '*':
                return closed(items(x.node(node, 0), size - 1), "(", ")");
            default:
                return all;
        }
    }

    private static List<String> closed(List<String> all, String open, String close) {
        if (all == null) {
            return null;
        }
        List<String> closed = new ArrayList<>();
        for (String one : all) {
            closed.add(open + one + close);
        }
        return closed;
    }

    /** The letters of a RECORD from one on, with VALUES of the SIZE left among them. */
    private List<String> rows(int node, int from, int left) {
        int part = from;
        while (part < 8 && x.node(node, part) == NONE) {
            part++;
        }
        if (part == 8) {
            return left == 0 ? List.of("") : new ArrayList<>();
        }
        List<String> all = new ArrayList<>();
        for (int size = 1; size <= left; size++) {
            List<String> behind = rows(node, part + 1, left - size);
            List<String> here = behind == null || behind.isEmpty() ? behind : written(x.node(node, part), size);
            if (!addEach(all, closed(here, "" + (char) ('a' + part), ""), behind)) {
                return null;
            }
        }
        return all;
    }

    private List<String> items(int part, int left) {
        if (left == 0) {
            return List.of("");
        }
        List<String> all = new ArrayList<>();
        for (int size = 1; size <= left; size++) {
            List<String> here = written(part, size);
            List<String> behind = here == null || here.isEmpty() ? here : items(part, left - size);
            if (!addEach(all, here, behind)) {
                return null;
            }
        }
        return all;
    }

    private static boolean addEach(List<String> all, List<String> here, List<String> behind) {
        if (here == null || behind == null || all.size() + (long) here.size() * behind.size() > MOST_WRITTEN) {
            return false;
        }
        for (String one : here) {
            for (String other : behind) {
                all.add(one + other);
            }
        }
        return true;
    }
}
