import java.math.BigInteger;
import java.util.ArrayDeque;
import java.util.ArrayList;
import java.util.HashMap;
import java.util.HashSet;
import java.util.List;
import java.util.Map;
import java.util.Set;
import java.util.TreeMap;

/**
 * The document's words in a second, slow form, written by other means than the class itself: a
 * stack of expectations for texts, assumptions for standing, a search for ways, trees for values.
 */
final class KindModel {
    static final int NONE = -6, UNKNOWN = -1, OUTSIDE = -2, FULL = -4, NO = -5;

    static final class Node {
        final char sign;
        final TreeMap<Integer, Integer> parts = new TreeMap<>();

        Node(char sign) {
            this.sign = sign;
        }
    }

    /** A VALUE as a tree: its sign, where it stands, its letters and what lies within. */
    static final class Tree {
        char sign;
        int from;
        int close;
        final List<Integer> letters = new ArrayList<>();
        final List<Tree> within = new ArrayList<>();
    }

    private final StringBuilder pad = new StringBuilder();
    private List<Node> nodes = new ArrayList<>();
    private int[] names = {NONE, NONE, NONE, NONE, NONE, NONE, NONE, NONE};
    private Boolean[][] mayMemo = new Boolean[64][64];

    int nodes() {
        return nodes.size();
    }

    String padded() {
        return pad.toString();
    }

    Node nodeAt(int i) {
        return nodes.get(i);
    }

    private boolean has(int i) {
        return i >= 0 && i < nodes.size();
    }

    // ---- 1 texts

    int say(int sign) {
        if (sign < 33 || sign > 126) {
            return OUTSIDE;
        }
        if (pad.length() == 100) {
            return FULL;
        }
        pad.append((char) sign);
        return pad.length();
    }

    int wipe() {
        int were = pad.length();
        pad.setLength(0);
        return were;
    }

    int fault() {
        String text = pad.toString();
        for (int length = 1; length <= text.length(); length++) {
            if (!textGoesOn(text.substring(0, length))) {
                return length - 1;
            }
        }
        return isText(text) ? NONE : text.length();
    }

    /** What is still awaited behind a beginning, the nearest on top; null: no TEXT begins so. */
    private static ArrayDeque<String> awaited(String begin) {
        ArrayDeque<String> stack = new ArrayDeque<>();
        stack.push("naming");
        Set<Character> told = new HashSet<>();
        for (int at = 0; at < begin.length(); at++) {
            if (stack.isEmpty() || !advance(stack, begin.charAt(at), told)) {
                return null;
            }
        }
        return stack;
    }

    private static boolean advance(ArrayDeque<String> stack, char sign, Set<Character> told) {
        String top = stack.pop();
        if (top.equals("naming")) {
            stack.push("more");
            stack.push("kind 0");
            stack.push("equals");
            return sign >= 'A' && sign <= 'H' && told.add(sign);
        }
        if (top.equals("equals")) {
            return sign == '=';
        }
        if (top.equals("more")) {
            stack.push("naming");
            return sign == ';';
        }
        String[] words = top.split(" ");
        int depth = Integer.parseInt(words[1]);
        if (words[0].equals("kind")) {
            return advanceKind(stack, sign, depth);
        }
        char close = words[0].charAt(0);
        int last = Integer.parseInt(words[2]);
        if (sign == close) {
            return true;
        }
        stack.push(close + " " + depth + " " + sign % 128);
        stack.push("kind " + (depth + 1));
        return sign >= 'a' && sign <= 'h' && sign > last && depth < 12;
    }

    private static boolean advanceKind(ArrayDeque<String> stack, char sign, int depth) {
        if ("nts.!ABCDEFGH".indexOf(sign) >= 0) {
            return true;
        }
        if (sign == '{' || sign == '[') {
            stack.push((sign == '{' ? "}" : "]") + " " + depth + " 0");
            return true;
        }
        if ((sign == '*' || sign == '>') && depth < 12) {
            stack.push("kind " + (depth + 1));
            if (sign == '>') {
                stack.push("kind " + (depth + 1));
            }
            return true;
        }
        return false;
    }

    private static boolean textGoesOn(String begin) {
        return awaited(begin) != null;
    }

    private static boolean isText(String text) {
        ArrayDeque<String> stack = awaited(text);
        return stack != null && stack.size() == 1 && stack.peek().equals("more");
    }

    int take() {
        if (fault() != NONE) {
            return NO;
        }
        List<Node> made = new ArrayList<>();
        Map<Character, Object> told = new HashMap<>();
        List<Object[]> holes = new ArrayList<>();
        for (String naming : pad.toString().split(";")) {
            int[] at = {2};
            told.put(naming.charAt(0), build(naming, at, made, holes));
        }
        for (Object[] hole : holes) {
            if (comesTo(hole[2], told) == null) {
                return NO;
            }
        }
        for (Object kind : told.values()) {
            if (comesTo(kind, told) == null) {
                return NO;
            }
        }
        if (made.size() > 40) {
            return FULL;
        }
        for (Object[] hole : holes) {
            ((Node) hole[0]).parts.put((Integer) hole[1], made.indexOf(comesTo(hole[2], told)));
        }
        nodes = made;
        for (int n = 0; n < 8; n++) {
            Object kind = told.get((char) ('A' + n));
            names[n] = kind == null ? NONE : made.indexOf(comesTo(kind, told));
        }
        mayMemo = new Boolean[64][64];
        pad.setLength(0);
        return nodes.size();
    }

    /** A Node, or a Character for a NAME. */
    private static Object build(String text, int[] at, List<Node> made, List<Object[]> holes) {
        char sign = text.charAt(at[0]++);
        if (sign >= 'A' && sign <= 'H') {
            return sign;
        }
        Node node = new Node(sign);
        made.add(node);
        if (sign == '*') {
            holes.add(new Object[] {node, 0, build(text, at, made, holes)});
        } else if (sign == '>') {
            holes.add(new Object[] {node, 0, build(text, at, made, holes)});
            holes.add(new Object[] {node, 1, build(text, at, made, holes)});
        } else if (sign == '{' || sign == '[') {
            while ("}]".indexOf(text.charAt(at[0])) < 0) {
                int letter = text.charAt(at[0]++) - 'a';
                holes.add(new Object[] {node, letter, build(text, at, made, holes)});
            }
            at[0]++;
        }
        return node;
    }

    private static Node comesTo(Object kind, Map<Character, Object> told) {
        Set<Object> seen = new HashSet<>();
        while (kind instanceof Character) {
            if (!seen.add(kind)) {
                return null;
            }
            kind = told.get(kind);
        }
        return (Node) kind;
    }

    int name(int n) {
        return n < 0 || n > 7 ? UNKNOWN : names[n];
    }

    int node(int i, int what) {
        if (!has(i)) {
            return UNKNOWN;
        }
        if (what < -1 || what > 8) {
            return OUTSIDE;
        }
        Node node = nodes.get(i);
        if (what == -1) {
            return node.sign;
        }
        return what == 8 ? node.parts.size() : node.parts.getOrDefault(what, NONE);
    }

    // ---- 2 standing

    int may(int i, int k) {
        if (!has(i) || !has(k)) {
            return UNKNOWN;
        }
        if (mayMemo[i][k] == null) {
            mayMemo[i][k] = stands(i, k, new HashSet<>());
        }
        return mayMemo[i][k] ? 1 : 0;
    }

    /** Assumptions are never taken back: a pair that fails once makes the whole question fail. */
    private boolean stands(int i, int k, Set<Integer> assumed) {
        if (!assumed.add(i * 100 + k)) {
            return true;
        }
        if (!agree(i, k)) {
            return false;
        }
        for (int[] next : steps(i, k)) {
            if (!stands(next[1], next[2], assumed)) {
                return false;
            }
        }
        return true;
    }

    private boolean agree(int i, int k) {
        Node one = nodes.get(i);
        Node other = nodes.get(k);
        if (one.sign == '!' || other.sign == '.') {
            return true;
        }
        if (one.sign != other.sign) {
            return false;
        }
        switch (one.sign) {
            case '{':
                return one.parts.keySet().containsAll(other.parts.keySet());
            case '[':
                return other.parts.keySet().containsAll(one.parts.keySet());
            default:
                return true;
        }
    }

    /** Of two that agree by themselves: step, the one that would stand, the other. */
    private List<int[]> steps(int i, int k) {
        List<int[]> found = new ArrayList<>();
        Node one = nodes.get(i);
        Node other = nodes.get(k);
        if (one.sign == '!' || other.sign == '.') {
            return found;
        }
        if (one.sign == '*') {
            found.add(new int[] {8, one.parts.get(0), other.parts.get(0)});
        } else if (one.sign == '>') {
            found.add(new int[] {9, other.parts.get(0), one.parts.get(0)});
            found.add(new int[] {10, one.parts.get(1), other.parts.get(1)});
        } else {
            for (int letter : one.sign == '{' ? other.parts.keySet() : one.parts.keySet()) {
                found.add(new int[] {letter, one.parts.get(letter), other.parts.get(letter)});
            }
        }
        return found;
    }

    /** Steps, and behind them the pair at the end; null if it MAY. Breadth first, steps in order. */
    private List<Integer> wayDown(int i, int k) {
        ArrayDeque<List<Integer>> queue = new ArrayDeque<>();
        Set<Integer> seen = new HashSet<>();
        queue.add(List.of(i * 100 + k));
        while (!queue.isEmpty()) {
            List<Integer> path = queue.remove();
            int pair = path.get(path.size() - 1);
            if (!seen.add(pair)) {
                continue;
            }
            if (!agree(pair / 100, pair % 100)) {
                return path;
            }
            for (int[] next : steps(pair / 100, pair % 100)) {
                List<Integer> longer = new ArrayList<>(path.subList(0, path.size() - 1));
                longer.add(next[0]);
                longer.add(next[1] * 100 + next[2]);
                queue.add(longer);
            }
        }
        return null;
    }

    int way(int i, int k, int j) {
        if (!has(i) || !has(k)) {
            return UNKNOWN;
        }
        List<Integer> path = wayDown(i, k);
        if (path == null) {
            return NONE;
        }
        int many = path.size() - 1;
        if (j == -1) {
            return many;
        }
        return j < 0 || j >= many ? NONE : path.get(j);
    }

    int end(int i, int k) {
        if (!has(i) || !has(k)) {
            return UNKNOWN;
        }
        List<Integer> path = wayDown(i, k);
        return path == null ? NONE : path.get(path.size() - 1);
    }

    int alike(int i, int k) {
        if (!has(i) || !has(k)) {
            return UNKNOWN;
        }
        return may(i, k) * may(k, i);
    }

    int pieces(int i) {
        if (!has(i)) {
            return UNKNOWN;
        }
        Set<Integer> held = new HashSet<>();
        gather(i, held);
        List<Integer> unlike = new ArrayList<>();
        for (int one : held) {
            if (unlike.stream().noneMatch(other -> alike(one, other) == 1)) {
                unlike.add(one);
            }
        }
        return unlike.size();
    }

    private void gather(int i, Set<Integer> held) {
        if (held.add(i)) {
            nodes.get(i).parts.values().forEach(part -> gather(part, held));
        }
    }

    // ---- 3 above, below

    int join(int i, int k, int what) {
        if (!has(i) || !has(k)) {
            return UNKNOWN;
        }
        if (what != 0 && what != 1) {
            return OUTSIDE;
        }
        int before = nodes.size();
        int answer = joined(i, k, what == 0, new HashMap<>());
        if (nodes.size() > 60) {
            nodes = new ArrayList<>(nodes.subList(0, before));
            mayMemo = new Boolean[64][64];
            return FULL;
        }
        return answer;
    }

    private int joined(int i, int k, boolean above, Map<String, Integer> made) {
        boolean up = may(i, k) == 1;
        boolean down = may(k, i) == 1;
        if (up && down) {
            return i;
        }
        if (up) {
            return above ? k : i;
        }
        if (down) {
            return above ? i : k;
        }
        String key = i + " " + k + " " + above;
        if (made.containsKey(key)) {
            return made.get(key);
        }
        Node one = nodes.get(i);
        Node other = nodes.get(k);
        boolean same = one.sign == other.sign;
        Node node = new Node(same ? one.sign : above ? '.' : '!');
        nodes.add(node);
        int number = nodes.size() - 1;
        made.put(key, number);
        if (!same || number >= 60) {
            return number;
        }
        for (int letter = 0; letter < 8; letter++) {
            Integer mine = one.parts.get(letter);
            Integer its = other.parts.get(letter);
            if (mine != null && its != null) {
                boolean turn = node.sign == '>' && letter == 0;
                node.parts.put(letter, joined(mine, its, turn != above, made));
            } else if ((mine != null || its != null) && above == (node.sign == '[')) {
                node.parts.put(letter, mine != null ? mine : its);
            }
        }
        return number;
    }

    // ---- 4 values

    int slip() {
        int[] at = {0};
        try {
            parse(at);
        } catch (IllegalStateException stuck) {
            return at[0];
        }
        return at[0] == pad.length() ? NONE : at[0];
    }

    private char peek(int[] at) {
        return at[0] < pad.length() ? pad.charAt(at[0]) : ' ';
    }

    private static void need(boolean held) {
        if (!held) {
            throw new IllegalStateException();
        }
    }

    private Tree parse(int[] at) {
        Tree tree = new Tree();
        tree.sign = peek(at);
        tree.from = at[0];
        need("0123456789TF${[(".indexOf(tree.sign) >= 0);
        at[0]++;
        if (tree.sign == '$') {
            need(peek(at) >= 'a' && peek(at) <= 'z');
            at[0]++;
        } else if (tree.sign == '{') {
            parseFields(tree, at);
        } else if (tree.sign == '[') {
            need(peek(at) >= 'a' && peek(at) <= 'h');
            tree.letters.add(pad.charAt(at[0]++) - 'a');
            tree.within.add(parse(at));
            need(peek(at) == ']');
            tree.close = at[0]++;
        } else if (tree.sign == '(') {
            while (peek(at) != ')') {
                tree.within.add(parse(at));
            }
            tree.close = at[0]++;
        }
        return tree;
    }

    private void parseFields(Tree tree, int[] at) {
        int last = -1;
        while (peek(at) != '}') {
            int letter = peek(at) - 'a';
            need(letter > last && letter < 8);
            at[0]++;
            last = letter;
            tree.letters.add(letter);
            tree.within.add(parse(at));
        }
        tree.close = at[0]++;
    }

    int fits(int i) {
        if (!has(i)) {
            return UNKNOWN;
        }
        if (slip() != NONE) {
            return NO;
        }
        List<Integer> places = new ArrayList<>();
        misfits(parse(new int[] {0}), i, places);
        return places.stream().min(Integer::compare).orElse(NONE);
    }

    private void misfits(Tree tree, int i, List<Integer> places) {
        Node node = nodes.get(i);
        if (node.sign == '.') {
            return;
        }
        if (!isOfSign(tree.sign, node.sign)) {
            places.add(tree.from);
        } else if (node.sign == '{') {
            for (int letter : node.parts.keySet()) {
                int at = tree.letters.indexOf(letter);
                if (at < 0) {
                    places.add(tree.close);
                } else {
                    misfits(tree.within.get(at), node.parts.get(letter), places);
                }
            }
        } else if (node.sign == '[') {
            Integer part = node.parts.get(tree.letters.get(0));
            if (part == null) {
                places.add(tree.from);
            } else {
                misfits(tree.within.get(0), part, places);
            }
        } else if (node.sign == '*') {
            tree.within.forEach(inner -> misfits(inner, node.parts.get(0), places));
        }
    }

    private static boolean isOfSign(char value, char kind) {
        switch (kind) {
            case 'n':
                return value >= '0' && value <= '9';
            case 't':
                return value == 'T' || value == 'F';
            case 's':
                return value == '$';
            case '*':
                return value == '(';
            case '{':
            case '[':
                return value == kind;
            default:
                return false;
        }
    }

    int size() {
        return slip() == NONE ? sizeOf(parse(new int[] {0})) : NO;
    }

    private static int sizeOf(Tree tree) {
        return 1 + tree.within.stream().mapToInt(KindModel::sizeOf).sum();
    }

    int count(int i, int size) {
        if (!has(i)) {
            return UNKNOWN;
        }
        if (size < 1 || size > 12) {
            return OUTSIDE;
        }
        return values(i, size, new HashMap<>()).min(BigInteger.valueOf(1000000000)).intValue();
    }

    /** Counted in full, without a cap on the way. */
    private BigInteger values(int i, int size, Map<String, BigInteger> memo) {
        String key = i + " " + size;
        BigInteger known = memo.get(key);
        if (known == null) {
            known = valuesAnew(i, size, memo);
            memo.put(key, known);
        }
        return known;
    }

    private BigInteger valuesAnew(int i, int size, Map<String, BigInteger> memo) {
        Node node = nodes.get(i);
        switch (node.sign) {
            case 'n':
                return BigInteger.valueOf(size == 1 ? 10 : 0);
            case 't':
                return BigInteger.valueOf(size == 1 ? 2 : 0);
            case 's':
                return BigInteger.valueOf(size == 1 ? 26 : 0);
            case '{':
                return rows(new ArrayList<>(node.parts.values()), size - 1, memo);
            case '[':
                BigInteger sum = BigInteger.ZERO;
                for (int part : node.parts.values()) {
                    sum = sum.add(size == 1 ? BigInteger.ZERO : values(part, size - 1, memo));
                }
                return sum;
            case '*':
                sum = BigInteger.ZERO;
                List<Integer> row = new ArrayList<>();
                for (int length = 0; length < size; length++) {
                    sum = sum.add(rows(row, size - 1, memo));
                    row.add(node.parts.get(0));
                }
                return sum;
            default:
                return BigInteger.ZERO;
        }
    }

    private BigInteger rows(List<Integer> row, int size, Map<String, BigInteger> memo) {
        if (row.isEmpty()) {
            return BigInteger.valueOf(size == 0 ? 1 : 0);
        }
        String key = "row " + row + " " + size;
        if (memo.containsKey(key)) {
            return memo.get(key);
        }
        BigInteger sum = BigInteger.ZERO;
        for (int first = 1; first <= size; first++) {
            BigInteger ways = values(row.get(0), first, memo);
            if (ways.signum() > 0) {
                sum = sum.add(ways.multiply(rows(row.subList(1, row.size()), size - first, memo)));
            }
        }
        memo.put(key, sum);
        return sum;
    }

    int least(int i) {
        if (!has(i)) {
            return UNKNOWN;
        }
        boolean[][] some = sizesWithAny();
        for (int size = 1; size <= 40; size++) {
            if (some[i][size]) {
                return size;
            }
        }
        return NONE;
    }

    /** By node and SIZE to 40 whether there is any VALUE. */
    private boolean[][] sizesWithAny() {
        boolean[][] some = new boolean[nodes.size()][41];
        for (int size = 1; size <= 40; size++) {
            for (int i = 0; i < nodes.size(); i++) {
                Node node = nodes.get(i);
                boolean[] sums = new boolean[41];
                sums[0] = true;
                if ("nts*".indexOf(node.sign) >= 0) {
                    some[i][size] = size == 1 || some[i][size];
                } else if (node.sign == '{') {
                    for (int part : node.parts.values()) {
                        sums = plus(sums, some[part]);
                    }
                    some[i][size] = sums[size - 1];
                } else if (node.sign == '[') {
                    for (int part : node.parts.values()) {
                        some[i][size] |= some[part][size - 1];
                    }
                }
            }
        }
        return some;
    }

    private static boolean[] plus(boolean[] sums, boolean[] some) {
        boolean[] all = new boolean[41];
        for (int a = 0; a <= 40; a++) {
            for (int b = 1; sums[a] && a + b <= 40; b++) {
                all[a + b] |= some[b];
            }
        }
        return all;
    }

    int told(int what) {
        int found = 0;
        switch (what) {
            case 0:
                return pad.length();
            case 1:
                return nodes.size();
            case 2:
                for (int node : names) {
                    found += node == NONE ? 0 : 1;
                }
                return found;
            case 3:
                boolean[][] some = sizesWithAny();
                for (boolean[] sizes : some) {
                    boolean any = false;
                    for (boolean here : sizes) {
                        any |= here;
                    }
                    found += any ? 0 : 1;
                }
                return found;
            case 4:
                for (int i = 0; i < nodes.size(); i++) {
                    for (int k = 0; k < nodes.size(); k++) {
                        found += i != k ? may(i, k) : 0;
                    }
                }
                return found;
            default:
                return OUTSIDE;
        }
    }
}
