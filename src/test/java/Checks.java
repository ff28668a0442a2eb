/** What the tests share: objects with signs laid or a TEXT taken, and the answers that are not as due. */
abstract class Checks {
    static final int NONE = -6, UNKNOWN = -1, OUTSIDE = -2, FULL = -4, NO = -5;
    static final int LEAST_INT = Integer.MIN_VALUE, MOST_INT = Integer.MAX_VALUE;
    static final int[] NO_NODES = {-1, LEAST_INT, MOST_INT, 60, 1000};
    private static int wrong = 0;

    static void due(String call, int got, int want) {
        if (got != want) {
            wrong++;
            System.out.println(call + " answered " + got + ", due is " + want);
        }
    }

    static KindNets laid(String signs) {
        KindNets x = new KindNets();
        lay(x, signs);
        return x;
    }

    static void lay(KindNets x, String signs) {
        x.wipe();
        for (char sign : signs.toCharArray()) {
            if (x.say(sign) < 1) {
                due("laying " + signs, x.told(0), signs.length());
            }
        }
    }

    static KindNets taken(String text) {
        KindNets x = laid(text);
        int nodes = x.take();
        if (nodes < 1) {
            due("take of " + text, nodes, 1);
        }
        return x;
    }

    /** A TEXT of one NAME: RECORDS one within another by a, the last with the NAME again, with fields behind. */
    static String ring(char name, String... behind) {
        StringBuilder text = new StringBuilder().append(name).append('=');
        text.append("{a".repeat(behind.length)).append(name);
        for (int at = behind.length - 1; at >= 0; at--) {
            text.append(behind[at]).append('}');
        }
        return text.toString();
    }

    static void close(String holds) {
        System.out.println(wrong == 0 ? holds : wrong + " answers are not as due");
        if (wrong != 0) {
            System.exit(1);
        }
    }
}
