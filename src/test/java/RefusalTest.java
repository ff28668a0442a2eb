import java.util.ArrayList;
import java.util.List;
import java.util.function.ToIntFunction;

/**
 * "Calls that are refused answer, the first of these that fits .. They change nothing." Two objects go
 * through the same calls, one of them with refused calls behind; then all that can be asked is asked of both.
 */
public final class RefusalTest extends Checks {
    private static final int[] ODD = {LEAST_INT, -7, -2, -1, 0, 1, 2, 5, 8, 9, 12, 13, 60, MOST_INT};
    private static final String FORTY = "A={anbncndnenfngnh{anbncndnenfngnh{anbncndnenfngnh{anbncndnenfngnh"
        + "{anbncndnenfngn}}}}}";
    /** An object is used for 512 calls: what is asked is split so that none goes far beyond. */
    private static final int ASKED_AT_ONCE = 200;

    /** A call with its name. */
    private static final class Call {
        final String name;
        final ToIntFunction<KindNets> run;

        Call(String name, ToIntFunction<KindNets> run) {
            this.name = name;
            this.run = run;
        }
    }

    /** What leads to a state: calls on a new object. */
    private static final class State {
        private final List<ToIntFunction<KindNets>> calls = new ArrayList<>();
        final String name;

        State(String name) {
            this.name = name;
        }

        State signs(String signs) {
            for (char sign : signs.toCharArray()) {
                calls.add(x -> x.say(sign));
            }
            return this;
        }

        State taking(String text) {
            signs(text);
            calls.add(KindNets::take);
            return this;
        }

        State joining(int times, int i, int k) {
            for (int time = 0; time < times; time++) {
                int what = time % 2;
                calls.add(x -> x.join(i, k, what));
            }
            return this;
        }

        KindNets reached() {
            KindNets x = new KindNets();
            for (ToIntFunction<KindNets> call : calls) {
                call.applyAsInt(x);
            }
            return x;
        }
    }

    public static void main(String[] args) {
        String four = "A=n;B=t;C={an};D={at}";
        State[] states = {
            new State("new"),
            new State("a full pad").signs("n".repeat(100)),
            new State("a text with a fault").taking(four).signs("A={bnan}"),
            new State("a name that is not told").taking(four).signs("A={aB}"),
            new State("a name for itself").taking(four).signs("A=B;B=A"),
            new State("40 nodes and a text of 41").taking(FORTY).signs(FORTY.replace("gn}", "gnhn}")),
            new State("a value").taking("A=[anb*A];B=[atb*Bcn];C=>AB").joining(2, 0, 3).signs("[b([a1])]"),
            new State("no value").taking("A={aAbn};B={aBct}").joining(3, 0, 2).signs("{a1a"),
            new State("60 nodes").taking(four).joining(54, 0, 1).signs("(12)"),
            new State("59 nodes").taking(four).joining(53, 0, 1).signs("{a1}"),
            new State("a ring that is too long").taking(ring('A', "", "", "", "", "", "bn") + ";"
                + ring('B', "", "", "", "", "", "", "cn") + ";C=n;D=n;E=n;F=n"),
        };
        for (State state : states) {
            refusedCallsChangeNothing(state);
        }
        questionsChangeNothing(states);
        close("refused calls change nothing");
    }

    private static void refusedCallsChangeNothing(State state) {
        int nodes = state.reached().told(1);
        List<Call> refused = new ArrayList<>();
        for (Call call : calls(nodes)) {
            int answer = call.run.applyAsInt(state.reached());
            if (answer <= UNKNOWN && answer >= NO) {
                refused.add(call);
            }
        }
        due(state.name + ": some are refused", refused.size() > 50 ? 1 : 0, 1);
        List<Call> asked = questions(nodes);
        asked.addAll(changes(nodes));
        for (int from = 0; from < asked.size(); from += ASKED_AT_ONCE) {
            List<Call> some = asked.subList(from, Math.min(asked.size(), from + ASKED_AT_ONCE));
            for (int first = 0; first < refused.size(); first += 25) {
                compare(state, refused.subList(first, Math.min(refused.size(), first + 25)), some);
            }
        }
    }

    private static void compare(State state, List<Call> between, List<Call> asked) {
        KindNets one = state.reached();
        KindNets other = state.reached();
        for (Call call : between) {
            call.run.applyAsInt(other);
        }
        for (Call call : asked) {
            due(state.name + ", " + call.name + " behind " + between.get(0).name + " and some more",
                call.run.applyAsInt(other), call.run.applyAsInt(one));
        }
    }

    /** Calls that only ask leave all as it is too, whatever they answer. */
    private static void questionsChangeNothing(State[] states) {
        for (State state : states) {
            int nodes = state.reached().told(1);
            List<Call> asked = questions(nodes);
            List<Call> behind = changes(nodes);
            for (int from = 0; from < asked.size(); from += ASKED_AT_ONCE) {
                compare(state, asked.subList(from, Math.min(asked.size(), from + ASKED_AT_ONCE)), behind);
            }
        }
    }

    /** Every call with odd numbers; those that are refused are picked from them. */
    private static List<Call> calls(int nodes) {
        List<Call> all = new ArrayList<>();
        all.add(new Call("take", KindNets::take));
        all.add(new Call("size", KindNets::size));
        int[] signs = {LEAST_INT, -1, 0, 32, 33, 126, 127, 321, MOST_INT};
        for (int sign : signs) {
            all.add(new Call("say " + sign, x -> x.say(sign)));
        }
        for (int i : new int[] {0, 2, nodes / 2, nodes - 1, nodes, LEAST_INT, MOST_INT, -1, 60}) {
            addCallsOfNode(all, i);
            for (int k : new int[] {0, 1, 6, 7, nodes - 1, nodes, -1, LEAST_INT, MOST_INT}) {
                addCallsOfTwo(all, i, k);
            }
        }
        for (int what : ODD) {
            all.add(new Call("name " + what, x -> x.name(what)));
            all.add(new Call("told " + what, x -> x.told(what)));
        }
        return all;
    }

    private static void addCallsOfNode(List<Call> all, int i) {
        for (int what : ODD) {
            all.add(new Call("node " + i + " " + what, x -> x.node(i, what)));
            all.add(new Call("count " + i + " " + what, x -> x.count(i, what)));
        }
        all.add(new Call("pieces " + i, x -> x.pieces(i)));
        all.add(new Call("fits " + i, x -> x.fits(i)));
        all.add(new Call("least " + i, x -> x.least(i)));
    }

    private static void addCallsOfTwo(List<Call> all, int i, int k) {
        all.add(new Call("may " + i + " " + k, x -> x.may(i, k)));
        all.add(new Call("end " + i + " " + k, x -> x.end(i, k)));
        all.add(new Call("alike " + i + " " + k, x -> x.alike(i, k)));
        all.add(new Call("way " + i + " " + k, x -> x.way(i, k, -1)));
        for (int what = -1; what <= 2; what++) {
            int asked = what;
            all.add(new Call("join " + i + " " + k + " " + asked, x -> x.join(i, k, asked)));
        }
    }

    /** All that can be asked without a change. */
    private static List<Call> questions(int nodes) {
        List<Call> all = new ArrayList<>();
        all.add(new Call("fault", KindNets::fault));
        all.add(new Call("slip", KindNets::slip));
        all.add(new Call("size", KindNets::size));
        for (int n = 0; n < 8; n++) {
            int what = n;
            all.add(new Call("name " + n, x -> x.name(what)));
            all.add(new Call("told " + n, x -> x.told(what)));
        }
        for (int i = 0; i <= nodes; i++) {
            int node = i;
            for (int w = -1; w <= 8; w++) {
                int what = w;
                all.add(new Call("node " + i + " " + w, x -> x.node(node, what)));
            }
            all.add(new Call("count " + i, x -> x.count(node, 1 + node % 12)));
            all.add(new Call("least " + i, x -> x.least(node)));
            all.add(new Call("pieces " + i, x -> x.pieces(node)));
            all.add(new Call("fits " + i, x -> x.fits(node)));
            for (int k = i % 3; k <= nodes; k += 3) {
                int other = k;
                all.add(new Call("may " + i + " " + k, x -> x.may(node, other)));
                all.add(new Call("end " + i + " " + k, x -> x.end(node, other)));
                all.add(new Call("way " + i + " " + k, x -> x.way(node, other, node % 3 - 1)));
            }
        }
        return all;
    }

    /** Calls that change something, with what they lead to asked again. */
    private static List<Call> changes(int nodes) {
        List<Call> all = new ArrayList<>();
        all.add(new Call("say n", x -> x.say('n')));
        for (int what = 0; what <= 1; what++) {
            int asked = what;
            for (int i = 0; i < Math.min(nodes, 8); i++) {
                int node = i;
                all.add(new Call("join 0 " + i, x -> x.join(0, node, asked)));
                all.add(new Call("join " + i + " 1", x -> x.join(node, 1, asked)));
                all.add(new Call("nodes", x -> x.told(1)));
            }
        }
        for (int told = 0; told <= 4; told++) {
            int what = told;
            all.add(new Call("told " + told, x -> x.told(what)));
        }
        all.add(new Call("take", KindNets::take));
        all.add(new Call("wipe", KindNets::wipe));
        for (char sign : "H=*n".toCharArray()) {
            all.add(new Call("say " + sign, x -> x.say(sign)));
        }
        all.add(new Call("take H", KindNets::take));
        all.add(new Call("may 0 1", x -> x.may(0, 1)));
        all.add(new Call("count 0 2", x -> x.count(0, 2)));
        all.add(new Call("least 0", x -> x.least(0)));
        all.add(new Call("name A", x -> x.name(0)));
        all.add(new Call("name H", x -> x.name(7)));
        return all;
    }
}
