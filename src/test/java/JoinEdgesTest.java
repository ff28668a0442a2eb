/** Section 3 and promise 13: each sentence that names a limit, at the last taken and the first refused. */
public final class JoinEdgesTest extends Checks {
    private static final String[] SIX = {"", "", "", "", "", "bn"};
    private static final String[] SEVEN = {"", "", "", "", "", "", "cn"};

    public static void main(String[] args) {
        oneThatMayStand();
        ofBothTheFirst();
        recordsShareTheirLetters();
        choicesShareTheirLetters();
        listsAndFunctions();
        othersAreAnyOrNothing();
        madeOnceForTheSameTwo();
        anotherForTheTwoTurned();
        anotherForAboveAndBelow();
        anewInEachAsking();
        theSameTwoAgain();
        numberedAheadOfTheirParts();
        whatIsMadeIsJoinedAgain();
        sixtyNodesAtMost();
        sixtyNodesOfRings();
        sixtyNodesOfSix();
        whatNeedsNoneIsNeverFull();
        refusalsInOrder();
        close("the edges of above and below hold");
    }

    private static void dueNode(KindNets x, int i, String sign, int... parts) {
        due("sign of " + i, x.node(i, -1), sign.charAt(0));
        int many = 0;
        for (int letter = 0; letter < 8; letter++) {
            int at = sign.indexOf((char) ('a' + letter));
            int part = at < 1 ? NONE : parts[at - 1];
            many += part == NONE ? 0 : 1;
            due("part " + letter + " of " + i, x.node(i, letter), part);
        }
        due("parts of " + i, x.node(i, 8), many);
    }

    /** "of ones one of which MAY STAND for the other: that other one"; BELOW "the one that MAY STAND". */
    private static void oneThatMayStand() {
        String[] texts = {"A=!;B=n", "A=n;B=.", "A=!;B=.", "A={an};B={}", "A=[];B=[an]", "A=*n;B=*.", "A=>nn;B=>n.",
            "A={aAbn};B={aB}", "A=[anb*A];B=[anb*Bct]", "A=!;B={aB}", "A=>{}n;B=>{an}n"};
        for (String text : texts) {
            KindNets x = taken(text);
            int nodes = x.told(1);
            int lower = x.name(0);
            int upper = x.name(1);
            due("above of " + text, x.join(lower, upper, 0), upper);
            due("above turned of " + text, x.join(upper, lower, 0), upper);
            due("below of " + text, x.join(lower, upper, 1), lower);
            due("below turned of " + text, x.join(upper, lower, 1), lower);
            due("none is made for " + text, x.told(1), nodes);
        }
    }

    /** "(of both: the first)". */
    private static void ofBothTheFirst() {
        String[] texts = {"A=n;B=n", "A=.;B=.", "A=!;B=!", "A={};B={}", "A=*A;B=**B", "A={aBbn};B={aAbn}", "A=>AA;B=>BB"};
        for (String text : texts) {
            KindNets x = taken(text);
            int nodes = x.told(1);
            for (int what = 0; what <= 1; what++) {
                due(what + " of " + text, x.join(x.name(0), x.name(1), what), x.name(0));
                due(what + " turned of " + text, x.join(x.name(1), x.name(0), what), x.name(1));
                due(what + " of the same in " + text, x.join(nodes - 1, nodes - 1, what), nodes - 1);
            }
            due("none is made for " + text, x.told(1), nodes);
        }
    }

    /** ABOVE "of letters that both have"; BELOW "all letters of either". */
    private static void recordsShareTheirLetters() {
        KindNets x = taken("A={an};B={ht}");
        due("above without letters", x.join(0, 2, 0), 4);
        dueNode(x, 4, "{");
        due("below of all letters", x.join(0, 2, 1), 5);
        dueNode(x, 5, "{ah", 1, 3);
        x = taken("A={anbncndn};B={enfngnhn}");
        due("below of eight letters", x.join(0, 5, 1), 10);
        dueNode(x, 10, "{abcdefgh", 1, 2, 3, 4, 6, 7, 8, 9);
        x = taken("A={anbtcs};B={btcndn}");
        due("above of two letters", x.join(0, 4, 0), 8);
        dueNode(x, 8, "{bc", 2, 9);
        dueNode(x, 9, ".");
        due("below of four letters", x.join(0, 4, 1), 10);
        dueNode(x, 10, "{abcd", 1, 2, 11, 7);
        dueNode(x, 11, "!");
        due("below turned", x.join(4, 0, 1), 12);
        dueNode(x, 12, "{abcd", 1, 5, 13, 7);
    }

    /** ABOVE "of all letters of either"; BELOW "letters that both have". */
    private static void choicesShareTheirLetters() {
        KindNets x = taken("A=[an];B=[ht]");
        due("above of all letters", x.join(0, 2, 0), 4);
        dueNode(x, 4, "[ah", 1, 3);
        due("below without letters", x.join(0, 2, 1), 5);
        dueNode(x, 5, "[");
        x = taken("A=[anbncndn];B=[enfngnhn]");
        due("above of eight letters", x.join(0, 5, 0), 10);
        dueNode(x, 10, "[abcdefgh", 1, 2, 3, 4, 6, 7, 8, 9);
        x = taken("A=[anbtcs];B=[btcndn]");
        due("above of four letters", x.join(0, 4, 0), 8);
        dueNode(x, 8, "[abcd", 1, 2, 9, 7);
        dueNode(x, 9, ".");
        due("below of two letters", x.join(0, 4, 1), 10);
        dueNode(x, 10, "[bc", 2, 11);
        dueNode(x, 11, "!");
    }

    /** "of two LISTS: of ABOVE; of two FUNCTIONS: from BELOW to ABOVE"; turned for BELOW. */
    private static void listsAndFunctions() {
        KindNets x = taken("A=*n;B=*t");
        due("above of lists", x.join(0, 2, 0), 4);
        dueNode(x, 4, "*a", 5);
        dueNode(x, 5, ".");
        due("below of lists", x.join(0, 2, 1), 6);
        dueNode(x, 6, "*a", 7);
        dueNode(x, 7, "!");
        x = taken("A=>nn;B=>tt");
        due("above of functions", x.join(0, 3, 0), 6);
        dueNode(x, 6, ">ab", 7, 8);
        dueNode(x, 7, "!");
        dueNode(x, 8, ".");
        due("below of functions", x.join(0, 3, 1), 9);
        dueNode(x, 9, ">ab", 10, 11);
        dueNode(x, 10, ".");
        dueNode(x, 11, "!");
        x = taken("A=>{an}n;B=>{anbn}t");
        due("a part that may stand", x.join(0, 4, 0), 9);
        dueNode(x, 9, ">ab", 5, 10);
        due("a part that it may stand for", x.join(0, 4, 1), 11);
        dueNode(x, 11, ">ab", 1, 12);
    }

    /** "of others ANY"; "others NOTHING". */
    private static void othersAreAnyOrNothing() {
        String[] kinds = {"n", "t", "s", "{}", "[]", "*n", ">nn"};
        for (String one : kinds) {
            for (String other : kinds) {
                if (!one.equals(other)) {
                    KindNets x = taken("A=" + one + ";B=" + other);
                    int nodes = x.told(1);
                    due("above of " + one + other, x.join(x.name(0), x.name(1), 0), nodes);
                    dueNode(x, nodes, ".");
                    due("below of " + one + other, x.join(x.name(0), x.name(1), 1), nodes + 1);
                    dueNode(x, nodes + 1, "!");
                    due("nodes", x.told(1), nodes + 2);
                }
            }
        }
    }

    /** "made just once for the same two (in their order) of one asking". */
    private static void madeOnceForTheSameTwo() {
        KindNets x = taken("C=n;D=t;A={aCbCcC};B={aDbDcD}");
        due("above", x.join(2, 3, 0), 4);
        dueNode(x, 4, "{abc", 5, 5, 5);
        due("nodes", x.told(1), 6);
        due("below", x.join(2, 3, 1), 6);
        dueNode(x, 6, "{abc", 7, 7, 7);
        x = taken("A={anbn};B={atbt}");
        due("other two alike", x.join(0, 3, 0), 6);
        dueNode(x, 6, "{ab", 7, 8);
        x = taken("C={an};D={at};A={aCb*C};B={aDb*D}");
        due("within another one", x.join(4, 6, 0), 8);
        dueNode(x, 8, "{ab", 9, 11);
        dueNode(x, 9, "{a", 10);
        dueNode(x, 10, ".");
        dueNode(x, 11, "*a", 9);
    }

    private static void anotherForTheTwoTurned() {
        KindNets x = taken("C=n;D=t;A={aCbD};B={aDbC}");
        due("above", x.join(2, 3, 0), 4);
        dueNode(x, 4, "{ab", 5, 6);
        dueNode(x, 5, ".");
        dueNode(x, 6, ".");
        due("nodes", x.told(1), 7);
    }

    private static void anotherForAboveAndBelow() {
        KindNets x = taken("C=n;D=t;A=>CC;B=>DD");
        due("above", x.join(2, 3, 0), 4);
        dueNode(x, 4, ">ab", 5, 6);
        dueNode(x, 5, "!");
        dueNode(x, 6, ".");
        x = taken("C=n;D=t;A=>C>CC;B=>D>DD");
        due("below, below, above", x.join(2, 4, 0), 6);
        dueNode(x, 6, ">ab", 7, 8);
        dueNode(x, 7, "!");
        dueNode(x, 8, ">ab", 7, 9);
        dueNode(x, 9, ".");
    }

    private static void anewInEachAsking() {
        KindNets x = taken("A=n;B=t");
        for (int made = 2; made < 12; made++) {
            due("asked again", x.join(0, 1, made < 7 ? 0 : 1), made);
        }
        due("all above alike", x.alike(2, 6), 1);
        due("all below alike", x.alike(7, 11), 1);
        due("above and below unlike", x.alike(6, 7), 0);
        x = new KindNets();
        for (int time = 0; time < 3; time++) {
            lay(x, "A={an};B={at}");
            due("take", x.take(), 4);
            due("the same two of the same text", x.join(0, 2, 0), 4);
            dueNode(x, 4, "{a", 5);
            due("nodes", x.told(1), 6);
        }
    }

    /** "where it comes to the same two again, that NODE is meant". */
    private static void theSameTwoAgain() {
        KindNets x = taken("A={aAbn};B={aBcn}");
        due("above of rings of one", x.join(0, 2, 0), 4);
        dueNode(x, 4, "{a", 4);
        due("below of rings of one", x.join(0, 2, 1), 5);
        dueNode(x, 5, "{abc", 5, 1, 3);
        x = taken("A=*[aAbn];B=*[aBbt]");
        due("above of rings of two", x.join(0, 3, 0), 6);
        dueNode(x, 6, "*a", 7);
        dueNode(x, 7, "[ab", 6, 8);
        dueNode(x, 8, ".");
        x = taken("A=>An;B=>Bt");
        due("above that holds below that holds it", x.join(0, 2, 0), 4);
        dueNode(x, 4, ">ab", 5, 7);
        dueNode(x, 5, ">ab", 4, 6);
        dueNode(x, 6, "!");
        dueNode(x, 7, ".");
        x = taken("A={aBbn};B={aAcn}");
        due("two that hold one another", x.join(0, 2, 0), 4);
        dueNode(x, 4, "{a", 5);
        dueNode(x, 5, "{a", 4);
        x = taken(ring('A', SIX) + ";" + ring('B', SEVEN));
        due("rings of 6 and 7", x.join(0, x.name(1), 0), 15);
        due("all pairs of them", x.told(1), 57);
        for (int made = 15; made < 57; made++) {
            dueNode(x, made, "{a", made == 56 ? 15 : made + 1);
        }
    }

    /** "a NODE ahead of its PARTS, PARTS in order, each with all that is needed for it ahead of the next one". */
    private static void numberedAheadOfTheirParts() {
        KindNets x = taken("A={a{an}b*{cn}h>nt};B={a{at}b*{ct}h>st}");
        due("above", x.join(0, 9, 0), 18);
        dueNode(x, 18, "{abh", 19, 21, 24);
        dueNode(x, 19, "{a", 20);
        dueNode(x, 20, ".");
        dueNode(x, 21, "*a", 22);
        dueNode(x, 22, "{c", 23);
        dueNode(x, 23, ".");
        dueNode(x, 24, ">ab", 25, 8);
        dueNode(x, 25, "!");
        due("nodes", x.told(1), 26);
        x = taken("A={a>>nn*nb*n};B={a>>tt*tb*t}");
        due("above of functions within", x.join(0, 9, 0), 18);
        dueNode(x, 18, "{ab", 19, 25);
        dueNode(x, 19, ">ab", 20, 23);
        dueNode(x, 20, ">ab", 21, 22);
        dueNode(x, 21, ".");
        dueNode(x, 22, "!");
        dueNode(x, 23, "*a", 24);
        dueNode(x, 25, "*a", 26);
    }

    private static void whatIsMadeIsJoinedAgain() {
        KindNets x = taken("A={aAbn};B={aBct};C={aCdn}");
        due("above of two", x.join(0, 2, 0), 6);
        due("above of it and the third", x.join(6, 4, 0), 6);
        due("below of two", x.join(0, 2, 1), 7);
        due("below of it and the third", x.join(7, 4, 1), 8);
        dueNode(x, 8, "{abcd", 8, 1, 3, 5);
        due("it may stand for all", x.may(8, 0) + x.may(8, 2) + x.may(8, 4) + x.may(8, 6) + x.may(8, 7), 5);
        due("least of it", x.least(8), NONE);
        due("count of it", x.count(8, 12), 0);
        lay(x, "{bT}");
        due("fits it", x.fits(8), 2);
        lay(x, "A=n;B=t");
        due("take", x.take(), 2);
        due("numbered on", x.join(0, 1, 0), 2);
    }

    private static KindNets withNodes(int nodes) {
        KindNets x = taken("A=n;B=t;C={an};D={at}");
        for (int made = 6; made < nodes; made++) {
            due("filling", x.join(0, 1, 0), made);
        }
        return x;
    }

    /** "(60 at most)"; "FULL: more than 60 NODES would be there". */
    private static void sixtyNodesAtMost() {
        KindNets x = withNodes(59);
        due("the 60th", x.join(0, 1, 1), 59);
        dueNode(x, 59, "!");
        due("the 61st", x.join(0, 1, 1), FULL);
        due("60 nodes", x.told(1), 60);
        due("no node 60", x.node(60, -1), UNKNOWN);
        x = withNodes(58);
        due("two of two left", x.join(2, 4, 0), 58);
        dueNode(x, 58, "{a", 59);
        dueNode(x, 59, ".");
        x = withNodes(59);
        for (int time = 0; time < 3; time++) {
            due("two of one left", x.join(2, 4, 0), FULL);
            due("two of one left, below", x.join(2, 4, 1), FULL);
            due("59 nodes still", x.told(1), 59);
        }
        due("no node 59", x.node(59, -1), UNKNOWN);
        due("one of one left", x.join(0, 1, 0), 59);
        dueNode(x, 59, ".");
        String fields = "{anbncndnenfngnh{anbncndnenfngnh{an}}}";
        x = taken("A=" + fields + ";B=" + fields.replace("n", "t"));
        due("nodes", x.told(1), 36);
        due("18 of 24 left", x.join(0, 18, 0), 36);
        due("nodes then", x.told(1), 54);
        due("18 of 6 left", x.join(0, 18, 1), FULL);
        due("nodes still", x.told(1), 54);
    }

    private static void sixtyNodesOfRings() {
        String rings = ring('A', SIX) + ";" + ring('B', SEVEN);
        for (int what = 0; what <= 1; what++) {
            KindNets x = taken(rings + ";C=n;D=n;E=n");
            due("60 with the ring", x.join(0, x.name(1), what), 18);
            due("60 nodes", x.told(1), 60);
            due("the ring is shut", x.node(59, 0), 18);
            x = taken(rings + ";C=n;D=n;E=n;F=n");
            due("61 with the ring", x.join(0, x.name(1), what), FULL);
            due("61 with the ring, turned", x.join(x.name(1), 0, what), FULL);
            due("61 with the ring, one step on", x.join(1, x.name(1), what), FULL);
            due("19 nodes still", x.told(1), 19);
            due("no node 19", x.node(19, 0), UNKNOWN);
            due("a short one still", x.join(0, 6, what), 19);
        }
    }

    /** Six NODES of which one asking needs 54 more, by nearly all pairs of them, above and below; or more. */
    private static void sixtyNodesOfSix() {
        KindNets x = taken("A=>BB;B=>CF;C=>AD;D=>EA;E=>DC;F=*A");
        due("54 in one asking", x.join(3, 4, 0), 6);
        due("60 nodes", x.told(1), 60);
        for (int made = 6; made < 60; made++) {
            boolean function = x.node(made, -1) == '>';
            due("parts of " + made, x.node(made, 8), function ? 2 : 0);
            due("first part of " + made, x.node(made, 0) >= 0 ? 1 : 0, function ? 1 : 0);
            due("second part of " + made, x.node(made, 1) >= 0 ? 1 : 0, function ? 1 : 0);
        }
        due("both may stand for it", x.may(3, 6) + x.may(4, 6), 2);
        x = taken("A=*C;B=>DA;C=>EB;D=>FD;E=>AC;F=>CF");
        due("more in one asking", x.join(1, 2, 0), FULL);
        due("more in one asking, turned", x.join(2, 1, 1), FULL);
        due("six nodes still", x.told(1), 6);
    }

    private static void whatNeedsNoneIsNeverFull() {
        KindNets x = withNodes(60);
        due("alike", x.join(58, 59, 0), 58);
        due("one that may stand", x.join(0, 59, 0), 59);
        due("one that may stand, below", x.join(59, 0, 1), 0);
        due("itself", x.join(2, 2, 1), 2);
        due("one that is needed", x.join(2, 4, 1), FULL);
        due("60 nodes", x.told(1), 60);
    }

    /** "UNKNOWN; OUTSIDE; FULL", the first that fits. */
    private static void refusalsInOrder() {
        KindNets x = withNodes(60);
        int[] whats = {-1, 2, 8, LEAST_INT, MOST_INT};
        for (int what : whats) {
            due("outside ahead of full " + what, x.join(0, 1, what), OUTSIDE);
            due("outside where none is needed " + what, x.join(0, 0, what), OUTSIDE);
            for (int i : NO_NODES) {
                due("unknown ahead of outside " + i, x.join(i, 0, what), UNKNOWN);
                due("unknown ahead of outside 0 " + i, x.join(0, i, what), UNKNOWN);
            }
        }
        for (int i : NO_NODES) {
            due("unknown ahead of full " + i, x.join(i, 1, 0), UNKNOWN);
            due("unknown ahead of full 0 " + i, x.join(0, i, 1), UNKNOWN);
            due("unknown twice " + i, x.join(i, i, 0), UNKNOWN);
        }
        KindNets fewer = taken("A=n;B=t");
        due("behind the last node", fewer.join(2, 0, 0), UNKNOWN);
        due("behind the last node", fewer.join(0, 2, 1), UNKNOWN);
        due("the last node", fewer.join(1, 1, 1), 1);
        due("no nodes", new KindNets().join(0, 0, 0), UNKNOWN);
    }
}
