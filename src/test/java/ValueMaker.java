import java.util.Map;

/** VALUES: mostly of a NODE, now and then with something in them that does not fit or is no VALUE. */
final class ValueMaker {
    private static final String SIGNS = "0T$abcdefghiz{}[]()F9A~";

    private final Dice dice;
    private final KindModel model;

    ValueMaker(Dice dice, KindModel model) {
        this.dice = dice;
        this.model = model;
    }

    String value(int i) {
        StringBuilder text = new StringBuilder(of(i, 0));
        if (dice.oneIn(4) && text.length() > 0) {
            int at = dice.below(text.length());
            char sign = SIGNS.charAt(dice.below(SIGNS.length()));
            switch (dice.below(4)) {
                case 0:
                    text.setCharAt(at, sign);
                    break;
                case 1:
                    text.insert(at, sign);
                    break;
                case 2:
                    text.setLength(at);
                    break;
                default:
                    text.append(sign);
                    break;
            }
        }
        return text.length() > 103 ? text.substring(0, 103) : text.toString();
    }

    private String of(int i, int depth) {
        KindModel.Node node = model.nodeAt(i);
        if (depth > 6 || dice.oneIn(12) || node.sign == '.' || node.sign == '!' || node.sign == '>') {
            return any(depth);
        }
        switch (node.sign) {
            case 'n':
                return String.valueOf(dice.below(10));
            case 't':
                return dice.oneIn(2) ? "T" : "F";
            case 's':
                return "$" + (char) ('a' + dice.below(26));
            case '{':
                return record(node, depth);
            case '[':
                return choice(node, depth);
            default:
                StringBuilder all = new StringBuilder("(");
                int many = dice.below(3);
                for (int item = 0; item < many; item++) {
                    all.append(of(node.parts.get(0), depth + 1));
                }
                return all.append(')').toString();
        }
    }

    private String record(KindModel.Node node, int depth) {
        StringBuilder all = new StringBuilder("{");
        for (int letter = 0; letter < 8; letter++) {
            Integer part = node.parts.get(letter);
            if (part != null && !dice.oneIn(12)) {
                all.append((char) ('a' + letter)).append(of(part, depth + 1));
            } else if (dice.oneIn(12)) {
                all.append((char) ('a' + letter)).append(any(depth + 1));
            }
        }
        return all.append('}').toString();
    }

    private String choice(KindModel.Node node, int depth) {
        int pick = dice.below(node.parts.size() + 1);
        for (Map.Entry<Integer, Integer> part : node.parts.entrySet()) {
            if (pick-- == 0) {
                return "[" + (char) ('a' + part.getKey()) + of(part.getValue(), depth + 1) + "]";
            }
        }
        return "[" + (char) ('a' + dice.below(8)) + any(depth + 1) + "]";
    }

    private String any(int depth) {
        switch (dice.below(depth > 6 ? 4 : 7)) {
            case 0:
                return "7";
            case 1:
                return "T";
            case 2:
                return "$q";
            case 3:
                return "()";
            case 4:
                return "{a" + any(depth + 1) + "}";
            case 5:
                return "[b" + any(depth + 1) + "]";
            default:
                return "(" + any(depth + 1) + any(depth + 1) + ")";
        }
    }
}
