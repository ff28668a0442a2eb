import java.util.Arrays;

/**
 * Kinds that hold themselves, as ../shared/DOC.md tells them: texts of kinds, which kind may stand
 * for which, the least kind above two and the greatest below, and values read against a kind.
 */
public final class KindNets {
    public static final int NONE = -6, UNKNOWN = -1, OUTSIDE = -2, STATE = -3, FULL = -4, NO = -5;

    private static final int LOWEST_SIGN = 33;
    private static final int HIGHEST_SIGN = 126;
    private static final int MOST_SIGNS = 100;
    private static final int MOST_TAKEN = 40;
    private static final int MOST_NODES = 60;
    private static final int NAMES = 8;
    private static final int SLOTS = 8;

    private static final int NUMBER = 'n';
    private static final int TRUTH = 't';
    private static final int LETTER = 's';
    private static final int ANY = '.';
    private static final int NOTHING = '!';
    private static final int RECORD = '{';
    private static final int CHOICE = '[';
    private static final int LIST = '*';
    private static final int FUNCTION = '>';

    private static final int ABOVE = 0;
    private static final int BELOW = 1;

    private final Pad pad;
    private final Net net;
    private final TextReader texts;
    private final Standing standing;
    private final Joiner joiner;
    private final ValueReader values;
    private final Counts counts;
    private final Leasts leasts;

    public KindNets() {
        pad = new Pad();
        net = new Net(MOST_NODES);
        texts = new TextReader(pad);
        standing = new Standing(net);
        joiner = new Joiner(net, standing);
        values = new ValueReader(pad, net);
        counts = new Counts(net);
        leasts = new Leasts(net);
    }

    // ---- 1 texts

    public int say(int sign) {
        if (sign < LOWEST_SIGN || sign > HIGHEST_SIGN) {
            return OUTSIDE;
        }
        return pad.lay(sign) ? pad.length() : FULL;
    }

    public int wipe() {
        int were = pad.length();
        pad.clear();
        return were;
    }

    public int fault() {
        return texts.read();
    }

    public int take() {
        if (texts.read() != NONE || !texts.allNamesComeToNodes()) {
            return NO;
        }
        if (texts.nodesRead() > MOST_TAKEN) {
            return FULL;
        }
        texts.copyInto(net);
        pad.clear();
        standing.forget();
        counts.forget();
        leasts.forget();
        return net.nodes();
    }

    public int name(int n) {
        return n < 0 || n >= NAMES ? UNKNOWN : net.nameAt(n);
    }

    public int node(int i, int what) {
        if (!net.has(i)) {
            return UNKNOWN;
        }
        if (what < -1 || what > SLOTS) {
            return OUTSIDE;
        }
        if (what == -1) {
            return net.signOf(i);
        }
        return what == SLOTS ? Integer.bitCount(net.slotsOf(i)) : net.partAt(i, what);
    }

    // ---- 2 standing

    public int may(int i, int k) {
        if (!net.has(i) || !net.has(k)) {
            return UNKNOWN;
        }
        standing.catchUp();
        return standing.mayStand(i, k) ? 1 : 0;
    }

    public int way(int i, int k, int j) {
        if (!net.has(i) || !net.has(k)) {
            return UNKNOWN;
        }
        standing.catchUp();
        return j == -1 ? standing.stepsDown(i, k) : standing.stepDown(i, k, j);
    }

    public int end(int i, int k) {
        if (!net.has(i) || !net.has(k)) {
            return UNKNOWN;
        }
        standing.catchUp();
        return standing.endOfWay(i, k);
    }

    public int alike(int i, int k) {
        if (!net.has(i) || !net.has(k)) {
            return UNKNOWN;
        }
        standing.catchUp();
        return standing.areAlike(i, k) ? 1 : 0;
    }

    public int pieces(int i) {
        if (!net.has(i)) {
            return UNKNOWN;
        }
        standing.catchUp();
        return standing.unlikeWithin(i);
    }

    // ---- 3 above, below

    public int join(int i, int k, int what) {
        if (!net.has(i) || !net.has(k)) {
            return UNKNOWN;
        }
        if (what != ABOVE && what != BELOW) {
            return OUTSIDE;
        }
        return joiner.joined(i, k, what);
    }

    // ---- 4 values

    public int slip() {
        return values.read(ValueReader.WHATEVER);
    }

    public int fits(int i) {
        if (!net.has(i)) {
            return UNKNOWN;
        }
        return values.read(i) == NONE ? values.misfitPlace() : NO;
    }

    public int size() {
        return values.read(ValueReader.WHATEVER) == NONE ? values.valuesRead() : NO;
    }

    public int count(int i, int size) {
        if (!net.has(i)) {
            return UNKNOWN;
        }
        if (size < 1 || size > Counts.LARGEST) {
            return OUTSIDE;
        }
        return counts.valuesOf(i, size);
    }

    public int least(int i) {
        return net.has(i) ? leasts.leastOf(i) : UNKNOWN;
    }

    public int told(int what) {
        switch (what) {
            case 0:
                return pad.length();
            case 1:
                return net.nodes();
            case 2:
                return net.namesTold();
            case 3:
                return leasts.emptyNodes();
            case 4:
                standing.catchUp();
                return standing.pairsThatMay();
            default:
                return OUTSIDE;
        }
    }

    /** The signs that are laid. */
    private static final class Pad {
        private final int[] signs;
        private int laid;

        Pad() {
            signs = new int[MOST_SIGNS];
            laid = 0;
        }

        boolean lay(int sign) {
            if (laid < 0 || laid >= MOST_SIGNS) {
                return false;
            }
            signs[laid] = sign;
            laid++;
            return true;
        }

        void clear() {
            laid = 0;
        }

        int length() {
            return laid;
        }

        /** Behind the last sign stands 0, which is no sign, so readers stop there by themselves. */
        int signAt(int place) {
            return place >= 0 && place < laid && place < MOST_SIGNS ? signs[place] : 0;
        }
    }

    /**
     * NODES with their PARTS, and NAMES. The PARTS of all signs lie in slots 0 to 7 (letters, or 0
     * of a LIST, or 0 and 1 of a FUNCTION), so that one loop over slots serves every sign.
     */
    private static final class Net {
        private final int room;
        private final int[] signs;
        private final int[] slots;
        private final int[] parts;
        private final int[] names;
        private int made;

        Net(int mostNodes) {
            room = mostNodes > 0 ? mostNodes : 0;
            signs = new int[room];
            slots = new int[room];
            parts = new int[room * SLOTS];
            names = new int[NAMES];
            Arrays.fill(names, NONE);
            made = 0;
        }

        void clear() {
            made = 0;
            Arrays.fill(names, NONE);
        }

        int nodes() {
            return made;
        }

        boolean has(int node) {
            return node >= 0 && node < made && node < room;
        }

        /** A new NODE without PARTS; NONE if there is no room for it. */
        int addNode(int sign) {
            if (made < 0 || made >= room) {
                return NONE;
            }
            signs[made] = sign;
            slots[made] = 0;
            made++;
            return made - 1;
        }

        void dropFrom(int node) {
            if (node >= 0 && node < made) {
                made = node;
            }
        }

        void setPart(int node, int slot, int part) {
            if (node >= 0 && node < made && node < room && slot >= 0 && slot < SLOTS) {
                slots[node] |= 1 << slot;
                parts[node * SLOTS + slot] = part;
            }
        }

        int signOf(int node) {
            return node >= 0 && node < made && node < room ? signs[node] : 0;
        }

        /** Bit by bit which slots hold a PART. */
        int slotsOf(int node) {
            return node >= 0 && node < made && node < room ? slots[node] : 0;
        }

        int partAt(int node, int slot) {
            if (node < 0 || node >= made || node >= room || slot < 0 || slot >= SLOTS) {
                return NONE;
            }
            return (slots[node] >> slot & 1) == 1 ? parts[node * SLOTS + slot] : NONE;
        }

        void setName(int name, int node) {
            if (name >= 0 && name < NAMES) {
                names[name] = node;
            }
        }

        int nameAt(int name) {
            return name >= 0 && name < NAMES ? names[name] : NONE;
        }

        int namesTold() {
            int found = 0;
            for (int name = 0; name < NAMES; name++) {
                if (nameAt(name) != NONE) {
                    found++;
                }
            }
            return found;
        }
    }

    /** Reads the PAD as a TEXT into a draft, whose PARTS and NAMES may still be NAMES. */
    private static final class TextReader {
        private static final int DEEPEST = 12;
        /** A NAME in the draft is told by this and its number, beyond all NODES. */
        private static final int FIRST_NAME = 1000;

        private final Pad pad;
        private final Net draft;
        private int place;
        private boolean stuck;

        TextReader(Pad pad) {
            this.pad = pad;
            draft = new Net(MOST_SIGNS);
            place = 0;
            stuck = false;
        }

        /** THE FAULT; NONE. */
        int read() {
            draft.clear();
            place = 0;
            stuck = false;
            // A ninth naming is begun too: its NAME is the fault, not the ; ahead of it, for which
            // NAMES are told does not matter there.
            for (int before = 0; before <= NAMES; before++) {
                readNaming();
                if (stuck) {
                    return place;
                }
                if (place >= pad.length()) {
                    return NONE;
                }
                if (pad.signAt(place) != ';') {
                    return place;
                }
                place++;
            }
            return place;
        }

        int nodesRead() {
            return draft.nodes();
        }

        boolean allNamesComeToNodes() {
            for (int name = 0; name < NAMES; name++) {
                if (draft.nameAt(name) != NONE && nodeOf(draft.nameAt(name)) == NONE) {
                    return false;
                }
            }
            for (int node = 0; node < draft.nodes(); node++) {
                for (int slot = 0; slot < SLOTS; slot++) {
                    int part = draft.partAt(node, slot);
                    if (part != NONE && nodeOf(part) == NONE) {
                        return false;
                    }
                }
            }
            return true;
        }

        void copyInto(Net net) {
            net.clear();
            for (int node = 0; node < draft.nodes(); node++) {
                int copy = net.addNode(draft.signOf(node));
                for (int slot = 0; slot < SLOTS; slot++) {
                    int part = draft.partAt(node, slot);
                    if (part != NONE) {
                        net.setPart(copy, slot, nodeOf(part));
                    }
                }
            }
            for (int name = 0; name < NAMES; name++) {
                net.setName(name, nodeOf(draft.nameAt(name)));
            }
        }

        /** NONE: a NAME on the way is not told, or the NAMES go round without end. */
        private int nodeOf(int kind) {
            int at = kind;
            for (int hops = 0; hops <= NAMES; hops++) {
                if (at < FIRST_NAME) {
                    return at;
                }
                at = draft.nameAt(at - FIRST_NAME);
            }
            return NONE;
        }

        private void readNaming() {
            int name = pad.signAt(place) - 'A';
            if (name < 0 || name >= NAMES || draft.nameAt(name) != NONE) {
                stuck = true;
                return;
            }
            place++;
            if (pad.signAt(place) != '=') {
                stuck = true;
                return;
            }
            place++;
            draft.setName(name, readKind(0));
        }

        private int readKind(int depth) {
            int sign = pad.signAt(place);
            if (depth > DEEPEST) {
                stuck = true;
                return NONE;
            }
            if (sign >= 'A' && sign < 'A' + NAMES) {
                place++;
                return FIRST_NAME + (sign - 'A');
            }
            if (!isKindSign(sign) || depth == DEEPEST && needsParts(sign)) {
                stuck = true;
                return NONE;
            }
            place++;
            int node = draft.addNode(sign);
            if (sign == RECORD || sign == CHOICE) {
                readLetters(node, sign == RECORD ? '}' : ']', depth);
            } else if (needsParts(sign)) {
                readPart(node, 0, depth);
                if (sign == FUNCTION) {
                    readPart(node, 1, depth);
                }
            }
            return node;
        }

        private void readLetters(int node, int close, int depth) {
            int lowest = 0;
            for (int before = 0; before <= SLOTS && !stuck; before++) {
                int sign = pad.signAt(place);
                if (sign == close) {
                    place++;
                    return;
                }
                int slot = sign - 'a';
                // A letter needs a KIND behind it, which would lie too deep.
                if (slot < lowest || slot >= SLOTS || depth >= DEEPEST) {
                    stuck = true;
                    return;
                }
                place++;
                readPart(node, slot, depth);
                lowest = slot + 1;
            }
        }

        private void readPart(int node, int slot, int depth) {
            if (!stuck) {
                draft.setPart(node, slot, readKind(depth + 1));
            }
        }

        private static boolean isKindSign(int sign) {
            switch (sign) {
                case NUMBER:
                case TRUTH:
                case LETTER:
                case ANY:
                case NOTHING:
                case RECORD:
                case CHOICE:
                case LIST:
                case FUNCTION:
                    return true;
                default:
                    return false;
            }
        }

        private static boolean needsParts(int sign) {
            return sign == LIST || sign == FUNCTION;
        }
    }

    /**
     * Which NODE MAY STAND for which. Kept is, for each pair, the number of steps of THE WAY DOWN;
     * a pair from which no way leads down to a misfit is just one of the greatest closed set.
     */
    private static final class Standing {
        private static final int NO_WAY = 1000000;

        private final Net net;
        private final int[] steps;
        private final int[] reached;
        private final int[] reachedBy;
        private int reachings;
        private int known;

        Standing(Net net) {
            this.net = net;
            steps = new int[MOST_NODES * MOST_NODES];
            reached = new int[MOST_NODES];
            reachedBy = new int[MOST_NODES];
            reachings = 0;
            known = 0;
        }

        void forget() {
            known = 0;
        }

        /**
         * Finds out all pairs; what is asked of pairs stands on it. NODES never change until all are
         * replaced, so only pairs with a newer NODE are looked at.
         */
        void catchUp() {
            int many = net.nodes();
            if (known >= many) {
                return;
            }
            startPairs(many);
            boolean shorter = true;
            for (int sweep = 0; sweep < MOST_NODES * MOST_NODES && shorter; sweep++) {
                shorter = shortenPairs(many);
            }
            known = many;
        }

        boolean mayStand(int i, int k) {
            return stepsOf(i, k) == NO_WAY;
        }

        boolean areAlike(int i, int k) {
            return mayStand(i, k) && mayStand(k, i);
        }

        int stepsDown(int i, int k) {
            return mayStand(i, k) ? NONE : stepsOf(i, k);
        }

        int stepDown(int i, int k, int j) {
            if (j < 0 || j >= stepsDown(i, k)) {
                return NONE;
            }
            int pair = pairAfter(i, k, j);
            return stepThrough(net.signOf(pair / MOST_NODES), firstSlotDown(pair));
        }

        int endOfWay(int i, int k) {
            int far = stepsDown(i, k);
            if (far == NONE) {
                return NONE;
            }
            int pair = pairAfter(i, k, far);
            return 100 * (pair / MOST_NODES) + pair % MOST_NODES;
        }

        int unlikeWithin(int i) {
            int many = reachFrom(i);
            int unlike = 0;
            for (int r = 0; r < many; r++) {
                if (!isAlikeEarlier(r)) {
                    unlike++;
                }
            }
            return unlike;
        }

        int pairsThatMay() {
            int found = 0;
            for (int i = 0; i < net.nodes(); i++) {
                for (int k = 0; k < net.nodes(); k++) {
                    if (i != k && mayStand(i, k)) {
                        found++;
                    }
                }
            }
            return found;
        }

        private int pairAfter(int i, int k, int far) {
            int pair = i * MOST_NODES + k;
            for (int gone = 0; gone < far; gone++) {
                pair = pairBehind(pair, firstSlotDown(pair));
            }
            return pair;
        }

        private boolean isAlikeEarlier(int r) {
            for (int earlier = 0; earlier < r; earlier++) {
                if (areAlike(reachedAt(earlier), reachedAt(r))) {
                    return true;
                }
            }
            return false;
        }

        private int reachedAt(int r) {
            return r >= 0 && r < MOST_NODES ? reached[r] : NONE;
        }

        /** Gathers a NODE and all that it holds: how many. */
        private int reachFrom(int i) {
            reachings++;
            int many = reachAlso(i, 0);
            for (int r = 0; r < many && r < MOST_NODES; r++) {
                for (int slot = 0; slot < SLOTS; slot++) {
                    many = reachAlso(net.partAt(reachedAt(r), slot), many);
                }
            }
            return many;
        }

        private int reachAlso(int node, int many) {
            if (node < 0 || node >= MOST_NODES || reachedBy[node] == reachings) {
                return many;
            }
            if (many < 0 || many >= MOST_NODES) {
                return many;
            }
            reachedBy[node] = reachings;
            reached[many] = node;
            return many + 1;
        }

        private void startPairs(int many) {
            for (int i = 0; i < many; i++) {
                for (int k = i < known ? known : 0; k < many; k++) {
                    setSteps(i, k, fitByThemselves(i, k) ? NO_WAY : 0);
                }
            }
        }

        /** PARTS mostly have higher numbers, so going downwards needs few sweeps. */
        private boolean shortenPairs(int many) {
            boolean shorter = false;
            for (int i = many - 1; i >= 0; i--) {
                int lowest = i < known ? known : 0;
                for (int k = many - 1; k >= lowest; k--) {
                    int now = stepsOf(i, k);
                    int found = now == 0 ? 0 : fewestBehind(i, k) + 1;
                    if (found < now) {
                        setSteps(i, k, found);
                        shorter = true;
                    }
                }
            }
            return shorter;
        }

        private int fewestBehind(int i, int k) {
            int fewest = NO_WAY;
            int both = net.slotsOf(i) & net.slotsOf(k);
            for (int slot = 0; slot < SLOTS && both >> slot != 0; slot++) {
                if ((both >> slot & 1) == 1) {
                    fewest = Math.min(fewest, stepsOfPair(pairBehind(i * MOST_NODES + k, slot)));
                }
            }
            return fewest;
        }

        private boolean fitByThemselves(int i, int k) {
            int sign = net.signOf(i);
            if (sign == NOTHING || net.signOf(k) == ANY) {
                return true;
            }
            if (sign != net.signOf(k)) {
                return false;
            }
            if (sign == RECORD) {
                return (net.slotsOf(k) & ~net.slotsOf(i)) == 0;
            }
            return sign != CHOICE || (net.slotsOf(i) & ~net.slotsOf(k)) == 0;
        }

        /** Of a pair that has a way: the first slot of a shortest one. */
        private int firstSlotDown(int pair) {
            for (int slot = 0; slot < SLOTS; slot++) {
                int behind = pairBehind(pair, slot);
                if (behind != NONE && stepsOfPair(behind) == stepsOfPair(pair) - 1) {
                    return slot;
                }
            }
            return NONE;
        }

        /** The two PARTS of a slot as a pair, the one that would stand ahead; NONE. */
        private int pairBehind(int pair, int slot) {
            if (pair < 0) {
                return NONE;
            }
            int one = net.partAt(pair / MOST_NODES, slot);
            int other = net.partAt(pair % MOST_NODES, slot);
            if (one == NONE || other == NONE) {
                return NONE;
            }
            boolean changesSides = slot == 0 && net.signOf(pair / MOST_NODES) == FUNCTION;
            return changesSides ? other * MOST_NODES + one : one * MOST_NODES + other;
        }

        private static int stepThrough(int sign, int slot) {
            if (sign == LIST) {
                return 8;
            }
            return sign == FUNCTION ? 9 + slot : slot;
        }

        private int stepsOfPair(int pair) {
            return pair >= 0 && pair < MOST_NODES * MOST_NODES ? steps[pair] : NO_WAY;
        }

        private int stepsOf(int i, int k) {
            return stepsOfPair(i * MOST_NODES + k);
        }

        private void setSteps(int i, int k, int fewest) {
            int pair = i * MOST_NODES + k;
            if (pair >= 0 && pair < MOST_NODES * MOST_NODES) {
                steps[pair] = fewest;
            }
        }
    }

    /** Makes ABOVE and BELOW; without recursion, for a chain of NODES to make may be long. */
    private static final class Joiner {
        private final Net net;
        private final Standing standing;
        /** By the NODES made in this asking: of which two, which of ABOVE and BELOW. */
        private final int[] firsts;
        private final int[] seconds;
        private final int[] whats;
        /** By the NODES made in this asking: the slot to look at next. */
        private final int[] nextSlots;
        private final int[] open;
        private int opened;
        private int before;
        private boolean full;

        Joiner(Net net, Standing standing) {
            this.net = net;
            this.standing = standing;
            firsts = new int[MOST_NODES];
            seconds = new int[MOST_NODES];
            whats = new int[MOST_NODES];
            nextSlots = new int[MOST_NODES];
            open = new int[MOST_NODES];
            opened = 0;
            before = 0;
            full = false;
        }

        int joined(int i, int k, int what) {
            standing.catchUp();
            before = net.nodes();
            opened = 0;
            full = false;
            int answer = nodeFor(i, k, what);
            // Each NODE is left once and looked at once for each slot.
            int mostLooks = MOST_NODES * (SLOTS + 1);
            for (int look = 0; look < mostLooks && opened > 0 && !full; look++) {
                goOn();
            }
            if (full) {
                net.dropFrom(before);
                return FULL;
            }
            return answer;
        }

        /** Looks at one slot of the NODE that was begun last and is not whole yet. */
        private void goOn() {
            int node = opened > 0 && opened <= MOST_NODES ? open[opened - 1] : NONE;
            if (node < 0 || node >= MOST_NODES || nextSlots[node] >= SLOTS) {
                opened--;
                return;
            }
            int slot = nextSlots[node];
            nextSlots[node]++;
            int part = partFor(node, slot);
            if (part != NONE) {
                net.setPart(node, slot, part);
            }
        }

        private int partFor(int node, int slot) {
            if (node < 0 || node >= MOST_NODES || !hasParts(net.signOf(node))) {
                return NONE;
            }
            int one = net.partAt(firsts[node], slot);
            int other = net.partAt(seconds[node], slot);
            if (one != NONE && other != NONE) {
                boolean turned = net.signOf(node) == FUNCTION && slot == 0;
                return nodeFor(one, other, turned ? turn(whats[node]) : whats[node]);
            }
            return keepsAll(net.signOf(node), whats[node]) ? Math.max(one, other) : NONE;
        }

        private int nodeFor(int i, int k, int what) {
            boolean up = standing.mayStand(i, k);
            boolean down = standing.mayStand(k, i);
            if (up || down) {
                boolean first = up && down || up == (what == BELOW);
                return first ? i : k;
            }
            int made = madeFor(i, k, what);
            return made != NONE ? made : begin(i, k, what);
        }

        private int madeFor(int i, int k, int what) {
            for (int node = Math.max(before, 0); node < net.nodes() && node < MOST_NODES; node++) {
                if (firsts[node] == i && seconds[node] == k && whats[node] == what) {
                    return node;
                }
            }
            return NONE;
        }

        private int begin(int i, int k, int what) {
            int sign = net.signOf(i);
            if (sign != net.signOf(k)) {
                sign = what == ABOVE ? ANY : NOTHING;
            }
            int node = net.addNode(sign);
            if (node < 0 || node >= MOST_NODES || opened < 0 || opened >= MOST_NODES) {
                full = true;
                return NONE;
            }
            firsts[node] = i;
            seconds[node] = k;
            whats[node] = what;
            nextSlots[node] = 0;
            open[opened] = node;
            opened++;
            return node;
        }

        private static int turn(int what) {
            return what == ABOVE ? BELOW : ABOVE;
        }

        private static boolean hasParts(int sign) {
            return sign == RECORD || sign == CHOICE || sign == LIST || sign == FUNCTION;
        }

        /** Whether letters that only one of the two has stay, as they are there. */
        private static boolean keepsAll(int sign, int what) {
            return sign == RECORD && what == BELOW || sign == CHOICE && what == ABOVE;
        }
    }

    /** Reads the PAD as a VALUE sign by sign, with the VALUES that are open on a stack. */
    private static final class ValueReader {
        /** Stands for a NODE where a VALUE may be of any kind. */
        static final int WHATEVER = -7;

        private static final int FOR_VALUE = 0;
        private static final int FOR_ITEM = 1;
        private static final int FOR_FIELD = 2;
        private static final int FOR_CASE = 3;
        private static final int FOR_CASE_CLOSE = 4;
        private static final int FOR_LETTER = 5;
        private static final int FOR_NO_MORE = 6;

        private final Pad pad;
        private final Net net;
        private final int[] openSigns;
        private final int[] openNodes;
        private final int[] openLetters;
        private int opened;
        private int waits;
        private int due;
        private int begun;
        private int misfit;

        ValueReader(Pad pad, Net net) {
            this.pad = pad;
            this.net = net;
            openSigns = new int[MOST_SIGNS];
            openNodes = new int[MOST_SIGNS];
            openLetters = new int[MOST_SIGNS];
            opened = 0;
            waits = FOR_VALUE;
            due = WHATEVER;
            begun = 0;
            misfit = NONE;
        }

        /** THE FAULT of the PAD as a VALUE, which is held against a NODE (or WHATEVER); NONE. */
        int read(int node) {
            opened = 0;
            waits = FOR_VALUE;
            due = node;
            begun = 0;
            misfit = NONE;
            for (int place = 0; place < pad.length(); place++) {
                if (!goesOn(pad.signAt(place), place)) {
                    return place;
                }
            }
            return waits == FOR_NO_MORE ? NONE : pad.length();
        }

        int valuesRead() {
            return begun;
        }

        int misfitPlace() {
            return misfit;
        }

        private boolean goesOn(int sign, int place) {
            switch (waits) {
                case FOR_VALUE:
                    return beginValue(sign, place);
                case FOR_ITEM:
                    return readItem(sign, place);
                case FOR_FIELD:
                    return readField(sign, place);
                case FOR_CASE:
                    return readCase(sign, place);
                case FOR_CASE_CLOSE:
                    return sign == ']' && closeValue();
                case FOR_LETTER:
                    return sign >= 'a' && sign <= 'z' && endValue();
                default:
                    return false;
            }
        }

        private boolean beginValue(int sign, int place) {
            int kind = kindBegunBy(sign);
            if (kind == NONE) {
                return false;
            }
            begun++;
            int node = nodeHeldAgainst(kind, place);
            if (kind == NUMBER || kind == TRUTH) {
                return endValue();
            }
            if (kind == LETTER) {
                waits = FOR_LETTER;
                return true;
            }
            return openValue(kind, node);
        }

        private static int kindBegunBy(int sign) {
            if (sign >= '0' && sign <= '9') {
                return NUMBER;
            }
            switch (sign) {
                case 'T':
                case 'F':
                    return TRUTH;
                case '$':
                    return LETTER;
                case '{':
                    return RECORD;
                case '[':
                    return CHOICE;
                case '(':
                    return LIST;
                default:
                    return NONE;
            }
        }

        /** What does not fit is noted once; what lies within it need not be held against a NODE. */
        private int nodeHeldAgainst(int kind, int place) {
            if (due == WHATEVER || net.signOf(due) == ANY) {
                return WHATEVER;
            }
            if (net.signOf(due) == kind) {
                return due;
            }
            noteMisfit(place);
            return WHATEVER;
        }

        private void noteMisfit(int place) {
            if (misfit == NONE) {
                misfit = place;
            }
        }

        private boolean openValue(int kind, int node) {
            if (opened < 0 || opened >= MOST_SIGNS) {
                return false;
            }
            openSigns[opened] = kind;
            openNodes[opened] = node;
            openLetters[opened] = 0;
            opened++;
            if (kind == RECORD) {
                waits = FOR_FIELD;
            } else {
                waits = kind == CHOICE ? FOR_CASE : FOR_ITEM;
            }
            return true;
        }

        private boolean closeValue() {
            if (opened > 0) {
                opened--;
            }
            return endValue();
        }

        private boolean endValue() {
            if (!isInnermostKnown()) {
                waits = FOR_NO_MORE;
            } else if (openSigns[opened - 1] == RECORD) {
                waits = FOR_FIELD;
            } else {
                waits = openSigns[opened - 1] == CHOICE ? FOR_CASE_CLOSE : FOR_ITEM;
            }
            return true;
        }

        private boolean isInnermostKnown() {
            return opened > 0 && opened <= MOST_SIGNS;
        }

        private boolean readItem(int sign, int place) {
            if (sign == ')') {
                return closeValue();
            }
            due = dueAt(0);
            return beginValue(sign, place);
        }

        private boolean readField(int sign, int place) {
            if (!isInnermostKnown()) {
                return false;
            }
            if (sign == '}') {
                if ((net.slotsOf(innermostNode()) & ~openLetters[opened - 1]) != 0) {
                    noteMisfit(place);
                }
                return closeValue();
            }
            int slot = sign - 'a';
            if (slot < 0 || slot >= SLOTS || openLetters[opened - 1] >> slot != 0) {
                return false;
            }
            openLetters[opened - 1] |= 1 << slot;
            due = dueAt(slot);
            waits = FOR_VALUE;
            return true;
        }

        private boolean readCase(int sign, int place) {
            int slot = sign - 'a';
            if (slot < 0 || slot >= SLOTS) {
                return false;
            }
            due = dueAt(slot);
            if (innermostNode() != WHATEVER && due == WHATEVER) {
                // The CHOICE itself does not fit by its letter, and its sign is the one just ahead.
                noteMisfit(place - 1);
            }
            waits = FOR_VALUE;
            return true;
        }

        private int innermostNode() {
            return isInnermostKnown() ? openNodes[opened - 1] : WHATEVER;
        }

        private int dueAt(int slot) {
            int part = net.partAt(innermostNode(), slot);
            return part == NONE ? WHATEVER : part;
        }
    }

    /** COUNTS by SIZE, each from those of lesser SIZES. */
    private static final class Counts {
        static final int LARGEST = 12;
        private static final long MOST = 1000000000L;

        private final Net net;
        private final long[] found;
        private final long[] ways;
        private int known;

        Counts(Net net) {
            this.net = net;
            found = new long[MOST_NODES * (LARGEST + 1)];
            ways = new long[LARGEST + 1];
            known = 0;
        }

        void forget() {
            known = 0;
        }

        int valuesOf(int node, int size) {
            catchUp();
            return (int) foundOf(node, size);
        }

        private void catchUp() {
            int many = Math.min(net.nodes(), MOST_NODES);
            if (known < 0 || known >= many) {
                return;
            }
            for (int size = 1; size <= LARGEST; size++) {
                for (int node = known; node < many; node++) {
                    found[node * (LARGEST + 1) + size] = valuesBySmaller(node, size);
                }
            }
            known = many;
        }

        private long foundOf(int node, int size) {
            boolean kept = node >= 0 && node < MOST_NODES && size >= 1 && size <= LARGEST;
            return kept ? found[node * (LARGEST + 1) + size] : 0;
        }

        private long valuesBySmaller(int node, int size) {
            switch (net.signOf(node)) {
                case NUMBER:
                    return size == 1 ? 10 : 0;
                case TRUTH:
                    return size == 1 ? 2 : 0;
                case LETTER:
                    return size == 1 ? 26 : 0;
                case RECORD:
                    return recordsOf(node, size - 1);
                case CHOICE:
                    return choicesOf(node, size - 1);
                case LIST:
                    return listsOf(node, size);
                default:
                    return 0;
            }
        }

        /** Ways to share out what lies within among the letters, one letter after another. */
        private long recordsOf(int node, int within) {
            if (within < 0 || within > LARGEST) {
                return 0;
            }
            Arrays.fill(ways, 0L);
            ways[0] = 1;
            for (int slot = 0; slot < SLOTS; slot++) {
                int part = net.partAt(node, slot);
                if (part != NONE) {
                    addLetter(part, within);
                }
            }
            return ways[within];
        }

        /** From above downwards, so that the ways of the letters before are still there. */
        private void addLetter(int part, int within) {
            for (int sum = Math.min(within, LARGEST); sum >= 0; sum--) {
                long all = 0;
                for (int size = 1; size <= sum; size++) {
                    all = Math.min(MOST, all + ways[sum - size] * foundOf(part, size));
                }
                ways[sum] = all;
            }
        }

        private long choicesOf(int node, int within) {
            long all = 0;
            for (int slot = 0; slot < SLOTS; slot++) {
                all = Math.min(MOST, all + foundOf(net.partAt(node, slot), within));
            }
            return all;
        }

        /** A LIST that is not empty is its first VALUE and a lesser LIST. */
        private long listsOf(int node, int size) {
            if (size == 1) {
                return 1;
            }
            int part = net.partAt(node, 0);
            long all = 0;
            for (int first = 1; first < size; first++) {
                all = Math.min(MOST, all + foundOf(part, first) * foundOf(node, size - first));
            }
            return all;
        }
    }

    /** LEAST SIZES, found by going over the NODES until none grows less. */
    private static final class Leasts {
        private static final int LARGEST = 40;
        private static final int EMPTY = LARGEST + 1;

        private final Net net;
        private final int[] found;
        private int known;

        Leasts(Net net) {
            this.net = net;
            found = new int[MOST_NODES];
            known = 0;
        }

        void forget() {
            known = 0;
        }

        int leastOf(int node) {
            catchUp();
            return foundOf(node) > LARGEST ? NONE : foundOf(node);
        }

        int emptyNodes() {
            catchUp();
            int empty = 0;
            for (int node = 0; node < net.nodes(); node++) {
                if (foundOf(node) > LARGEST) {
                    empty++;
                }
            }
            return empty;
        }

        private void catchUp() {
            int many = Math.min(net.nodes(), MOST_NODES);
            if (known < 0 || known >= many) {
                return;
            }
            for (int node = known; node < many; node++) {
                found[node] = EMPTY;
            }
            boolean lesser = true;
            for (int sweep = 0; sweep < MOST_NODES * LARGEST && lesser; sweep++) {
                lesser = lessen(many);
            }
            known = many;
        }

        private boolean lessen(int many) {
            boolean lesser = false;
            for (int node = many - 1; node >= known && node >= 0; node--) {
                int size = Math.min(EMPTY, sizeByParts(node));
                if (node < MOST_NODES && size < found[node]) {
                    found[node] = size;
                    lesser = true;
                }
            }
            return lesser;
        }

        private int sizeByParts(int node) {
            switch (net.signOf(node)) {
                case NUMBER:
                case TRUTH:
                case LETTER:
                case LIST:
                    return 1;
                case RECORD:
                    return 1 + sumOfParts(node);
                case CHOICE:
                    return 1 + leastOfParts(node);
                default:
                    return EMPTY;
            }
        }

        private int sumOfParts(int node) {
            int sum = 0;
            for (int slot = 0; slot < SLOTS; slot++) {
                int part = net.partAt(node, slot);
                if (part != NONE) {
                    sum += foundOf(part);
                }
            }
            return sum;
        }

        private int leastOfParts(int node) {
            int lowest = EMPTY;
            for (int slot = 0; slot < SLOTS; slot++) {
                lowest = Math.min(lowest, foundOf(net.partAt(node, slot)));
            }
            return lowest;
        }

        private int foundOf(int node) {
            return node >= 0 && node < MOST_NODES ? found[node] : EMPTY;
        }
    }
}
