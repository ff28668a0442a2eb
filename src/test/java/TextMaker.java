/** TEXTS: mostly well made, often with one NAME told nearly as another, now and then spoilt. */
final class TextMaker {
    private static final String SIGNS = "nts.!{}[]*>ABCDEFGHabcdefgh=;i$I~";

    private final Dice dice;
    private int names;
    private int roomLeft;

    TextMaker(Dice dice) {
        this.dice = dice;
    }

    String text() {
        return dice.oneIn(4) ? rings() : namings();
    }

    /** Rings of unlike lengths, which come to the same two again late, with small differences. */
    private String rings() {
        names = 2 + dice.below(3);
        String wrap = new String[] {"{a", "[a", "*", ">n", ">", "{"}[dice.below(6)];
        StringBuilder text = new StringBuilder();
        for (int n = 0; n < names; n++) {
            char next = (char) ('A' + (dice.oneIn(3) ? dice.below(names) : n));
            text.append(n > 0 ? ";" : "").append((char) ('A' + n)).append('=');
            text.append(ring(wrap, 1 + dice.below(names > 2 ? 7 : 12), next));
        }
        return text.toString();
    }

    private String ring(String wrap, int length, char next) {
        if (length == 0) {
            return String.valueOf(next);
        }
        String inner = ring(wrap, length - 1, next);
        boolean odd = dice.oneIn(9);
        switch (wrap) {
            case "{a":
                return "{a" + inner + (odd ? "bn}" : "}");
            case "[a":
                return "[a" + inner + (odd ? "bt]" : "]");
            case "*":
                return odd ? "{c" + inner + "}" : "*" + inner;
            case ">n":
                return (odd ? ">t" : ">n") + inner;
            case ">":
                return ">" + inner + (odd ? "." : "n");
            default:
                return odd ? "{a" + next + "b" + inner + "}" : "{b" + inner + "}";
        }
    }

    private String namings() {
        names = 1 + dice.below(dice.oneIn(4) ? 8 : 3);
        String[] told = new String[names];
        for (int n = 0; n < names; n++) {
            if (n > 0 && dice.below(3) > 0) {
                told[n] = variant(told[dice.below(n)], n);
            } else {
                roomLeft = 2 + dice.below(dice.oneIn(3) ? 90 / names : 30 / names + 4);
                told[n] = kind(0, n);
            }
        }
        int first = dice.oneIn(5) ? 8 - names : 0;
        StringBuilder text = new StringBuilder();
        for (int n = 0; n < names; n++) {
            text.append(n > 0 ? ";" : "").append((char) ('A' + first + n)).append('=');
            text.append(shifted(told[n], first));
        }
        return dice.oneIn(6) ? spoilt(text) : text.toString();
    }

    private static String shifted(String kind, int by) {
        StringBuilder all = new StringBuilder();
        for (char sign : kind.toCharArray()) {
            all.append(sign >= 'A' && sign <= 'H' ? (char) (sign + by) : sign);
        }
        return all.toString();
    }

    private String spoilt(StringBuilder text) {
        int times = 1 + dice.below(2);
        for (int t = 0; t < times && text.length() > 0; t++) {
            int at = dice.below(text.length());
            char sign = SIGNS.charAt(dice.below(SIGNS.length()));
            switch (dice.below(5)) {
                case 0:
                    text.setCharAt(at, sign);
                    break;
                case 1:
                    text.insert(at, sign);
                    break;
                case 2:
                    text.deleteCharAt(at);
                    break;
                case 3:
                    text.append(';').append(dice.oneIn(2) ? "" : (char) ('A' + dice.below(9)) + "=n");
                    break;
                default:
                    text.setLength(at);
                    break;
            }
        }
        return text.toString();
    }

    /** The same KIND with other NAMES and leaves in some places. */
    private String variant(String kind, int n) {
        StringBuilder all = new StringBuilder(kind);
        for (int at = 0; at < all.length(); at++) {
            char sign = all.charAt(at);
            if (sign >= 'A' && sign <= 'H' && dice.below(3) > 0) {
                all.setCharAt(at, (char) ('A' + (dice.oneIn(2) ? n : dice.below(names))));
            } else if ("nts.!".indexOf(sign) >= 0 && dice.oneIn(5)) {
                all.setCharAt(at, leaf());
            } else if ("{[".indexOf(sign) >= 0 && all.charAt(at + 1) == 'b' && dice.oneIn(3)) {
                all.insert(at + 1, "a" + leaf());
            }
        }
        return all.toString();
    }

    private char leaf() {
        return "nnnts.!".charAt(dice.below(7));
    }

    private String kind(int depth, int n) {
        roomLeft--;
        int chance = roomLeft > 0 ? dice.below(12) : dice.below(4);
        if (depth > 11 && !dice.oneIn(20) && chance >= 4) {
            chance = dice.below(4);
        }
        if (chance < 2 && depth > 0 || chance < 1) {
            return String.valueOf(leaf());
        }
        if (chance < 4) {
            return String.valueOf((char) ('A' + (dice.oneIn(3) ? n : dice.below(names))));
        }
        if (chance < 7) {
            return "{" + letters(depth, n) + "}";
        }
        if (chance < 9) {
            return "[" + letters(depth, n) + "]";
        }
        if (chance < 10) {
            return "*" + kind(depth + 1, n);
        }
        return ">" + kind(depth + 1, n) + kind(depth + 1, n);
    }

    private String letters(int depth, int n) {
        StringBuilder all = new StringBuilder();
        int last = dice.oneIn(6) ? 8 : 3;
        for (int letter = dice.below(3); letter < last; letter++) {
            if (dice.below(3) > 0) {
                all.append((char) ('a' + letter)).append(kind(depth + 1, n));
            }
        }
        return all.toString();
    }
}
