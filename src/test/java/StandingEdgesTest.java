/** Section 2 and promises 8 to 12: each sentence that names a limit, at the last taken and the first refused. */
public final class StandingEdgesTest extends Checks {
    public static void main(String[] args) {
        nothingElseStands();
        aRecordHasAllLetters();
        aChoiceHasNoOtherLetters();
        listsByTheirPart();
        functionsTurnTheirFirstPart();
        whatComesToTheSameTwoAgainHolds();
        aLateMisfitForbidsIt();
        itselfMayStand();
        theFewestSteps();
        ofSeveralTheFirst();
        bothChangeSides();
        stepsAreNumbered();
        theWayHasNoStepsOrVeryMany();
        noneWhereItMay();
        theTwoAtTheEnd();
        alikeIsBothWays();
        piecesAreUnlike();
        piecesAcrossMadeNodes();
        madeNodesAndOlderOnes();
        unknownNodes();
        close("the edges of standing hold");
    }

    private static void dueMay(String one, String other, int want, int back) {
        KindNets x = taken("A=" + one + ";B=" + other);
        int i = x.name(0);
        int k = x.name(1);
        due(one + " may stand for " + other, x.may(i, k), want);
        due(other + " may stand for " + one, x.may(k, i), back);
        due(one + " alike " + other, x.alike(i, k), want * back);
        due(other + " alike " + one, x.alike(k, i), want * back);
        due("way of " + one + " to " + other, x.way(i, k, -1) == NONE ? 1 : 0, want);
        due("end of " + one + " to " + other, x.end(i, k) == NONE ? 1 : 0, want);
    }

    /** "NOTHING for all; all for ANY; NUMBER, TRUTH, LETTER for themselves; .. nothing else". */
    private static void nothingElseStands() {
        String[] kinds = {"!", "n", "t", "s", "{}", "[]", "*!", ">!!", "{an}", "[an]", "*n", ">nn", "."};
        String unlike = "!nts{[*>{[*>.";
        for (int i = 0; i < kinds.length; i++) {
            for (int k = 0; k < kinds.length; k++) {
                if (unlike.charAt(i) != unlike.charAt(k) || i == k) {
                    int want = i == 0 || k == 12 || i == k ? 1 : 0;
                    dueMay(kinds[i], kinds[k], want, k == 0 || i == 12 || i == k ? 1 : 0);
                }
            }
        }
    }

    /** "a RECORD for a RECORD, if it has all letters of that, and its PARTS there MAY STAND for those". */
    private static void aRecordHasAllLetters() {
        dueMay("{}", "{}", 1, 1);
        dueMay("{an}", "{}", 1, 0);
        dueMay("{hn}", "{}", 1, 0);
        dueMay("{anbncndnenfngnhn}", "{an}", 1, 0);
        dueMay("{anbncndnenfngnhn}", "{hn}", 1, 0);
        dueMay("{anbncndnenfngnhn}", "{anbncndnenfngn}", 1, 0);
        dueMay("{anbncndnenfngnhn}", "{anbncndnenfngnh.}", 1, 0);
        dueMay("{anbncndnenfngn}", "{bncndnenfngnhn}", 0, 0);
        dueMay("{atbn}", "{bn}", 1, 0);
        dueMay("{atbn}", "{as}", 0, 0);
        dueMay("{a!}", "{a.}", 1, 0);
        dueMay("{a!}", "{a.b.}", 0, 0);
    }

    /** "a CHOICE for a CHOICE, if that has all letters of it, and its PARTS MAY STAND for those there". */
    private static void aChoiceHasNoOtherLetters() {
        dueMay("[]", "[]", 1, 1);
        dueMay("[]", "[an]", 1, 0);
        dueMay("[]", "[hn]", 1, 0);
        dueMay("[hn]", "[anbncndnenfngnhn]", 1, 0);
        dueMay("[anbncndnenfngn]", "[anbncndnenfngnhn]", 1, 0);
        dueMay("[anbncndnenfngn]", "[bncndnenfngnhn]", 0, 0);
        dueMay("[an]", "[atbn]", 0, 0);
        dueMay("[a!]", "[anbn]", 1, 0);
        dueMay("[a.]", "[anbn]", 0, 0);
    }

    private static void listsByTheirPart() {
        dueMay("*!", "*n", 1, 0);
        dueMay("*n", "*.", 1, 0);
        dueMay("*n", "*n", 1, 1);
        dueMay("*n", "*t", 0, 0);
        dueMay("************!", "************.", 1, 0);
        dueMay("************n", "************t", 0, 0);
    }

    /** "if the other one's PART 0 MAY STAND for its PART 0, and its PART 1 for the other one's". */
    private static void functionsTurnTheirFirstPart() {
        dueMay(">.!", ">!.", 1, 0);
        dueMay(">!!", ">..", 0, 0);
        dueMay(">n!", ">n.", 1, 0);
        dueMay(">.n", ">!n", 1, 0);
        dueMay(">{}{an}", ">{an}{}", 1, 0);
        dueMay(">>!nn", ">>.nn", 1, 0);
        dueMay(">>>!nnn", ">>>.nnn", 0, 1);
    }

    /** "Where this comes to the same two again, it holds if nothing else forbids it". */
    private static void whatComesToTheSameTwoAgainHolds() {
        dueMay("*A", "*B", 1, 1);
        dueMay("*A", "*********B", 1, 1);
        dueMay("**A", "***B", 1, 1);
        dueMay("{aA}", "{aB}", 1, 1);
        dueMay("{aAbn}", "{aB}", 1, 0);
        dueMay("[aA]", "[aBbn]", 1, 0);
        dueMay(">AA", ">BB", 1, 1);
        dueMay(">nA", ">n>nB", 1, 1);
        dueMay(">An", ">Bn", 1, 1);
        dueMay(">A!", ">B.", 0, 0);
        dueMay(">A!", ">>B.!", 0, 1);
        dueMay("{aB}", "{aA}", 1, 1);
        dueMay("{aBbn}", "{aA}", 0, 0);
        dueMay("*B", "{aA}", 0, 0);
        KindNets x = taken(ring('A', "bn", "", "", "") + ";" + ring('B', "", "bn", "", "", "", "bn"));
        due("rings of 4 and 6 that meet where b lacks", x.may(0, 5), 0);
        x = taken(ring('A', "bn", "", "bn", "") + ";" + ring('B', "bn", "", "", "", "", ""));
        due("rings of 4 and 6 that never meet where b lacks", x.may(0, x.name(1)), 1);
        due("but not back", x.may(x.name(1), 0), 0);
        due("nor one step on", x.may(1, x.name(1)), 0);
    }

    /** The only misfit lies behind as many steps as the rings have pairs. */
    private static void aLateMisfitForbidsIt() {
        KindNets x = lateMisfit();
        due("may", x.may(0, x.name(1)), 0);
        due("may one step on", x.may(1, x.name(1) + 1), 0);
        due("may of the whole ones", x.may(11, 12), 1);
        x = taken(ring('A', "bn", "bn", "bn", "bn", "") + ";" + ring('B', "", "", "", "", "bn", ""));
        int b = x.name(1);
        for (int t = 0; t < 30; t++) {
            due("may at " + t, x.may(t % 5, b + t % 6), 0);
            due("steps at " + t, x.way(t % 5, b + t % 6, -1), t < 5 ? 4 - t : 34 - t);
        }
    }

    private static KindNets lateMisfit() {
        String[] eleven = {"bn", "bn", "bn", "bn", "bn", "bn", "bn", "bn", "bn", "bn", ""};
        String[] twelve = {"", "", "", "", "", "", "", "", "", "", "", "bn"};
        return taken(ring('A', eleven) + ";" + ring('B', twelve));
    }

    private static void itselfMayStand() {
        KindNets x = taken("A={anb[c*Ad>BB]};B=>AC;C=!;D=.");
        for (int i = 0; i < x.told(1); i++) {
            due("may itself " + i, x.may(i, i), 1);
            due("alike itself " + i, x.alike(i, i), 1);
            due("way to itself " + i, x.way(i, i, -1), NONE);
            due("end to itself " + i, x.end(i, i), NONE);
        }
    }

    /** The way from A to B, told by its steps and the two at its end. */
    private static void dueWay(String text, int end, int... steps) {
        KindNets x = taken(text);
        int i = x.name(0);
        int k = x.name(1);
        due(text + " may", x.may(i, k), 0);
        due(text + " way -1", x.way(i, k, -1), steps.length);
        for (int j = 0; j < steps.length; j++) {
            due(text + " way " + j, x.way(i, k, j), steps[j]);
        }
        int[] beside = {steps.length, steps.length + 1, -2, LEAST_INT, MOST_INT, NONE};
        for (int j : beside) {
            due(text + " way " + j, x.way(i, k, j), NONE);
        }
        due(text + " end", x.end(i, k), end);
    }

    /** "the fewest steps". */
    private static void theFewestSteps() {
        dueWay("A={a*nbn};B={a*tbt}", 307, 1);
        dueWay("A={a*{an}h*n};B={a*{at}h*t}", 511, 7, 8);
        dueWay("A={an};B={atbn}", 2);
        dueWay("A=[anbn];B=[at]", 3);
        dueWay("A=>*nn;B=>*tt", 307, 10);
        dueWay("A=>n*n;B=>t*t", 501, 9);
        dueWay("A={aAbn};B={a{a{a{aBbt}bn}bn}bn}", 106, 0, 0, 0, 1);
        dueWay("A={anbn};B={bt}", 204, 1);
        dueWay("A={angnhn};B={ht}", 305, 7);
        dueWay("A=[bn];B=[atbt]", 104, 1);
        dueWay("A=[hn];B=[atgtht]", 105, 7);
    }

    /** "of several the first by steps". */
    private static void ofSeveralTheFirst() {
        dueWay("A={anbncndnenfngnhn};B={atbtctdtetftgtht}", 110, 0);
        dueWay("A={anbncndnenfngnhn};B={anbncndnenfngtht}", 716, 6);
        dueWay("A=[gnhn];B=[gtht]", 104, 6);
        dueWay("A=>nn;B=>tt", 401, 9);
        dueWay("A=>nn;B=>nt", 205, 10);
        dueWay("A={a{bncn}b{an}};B={a{bnct}b{at}}", 309, 0, 2);
        dueWay("A={a{bncn}b{an}};B={a{btct}b{at}}", 208, 0, 1);
        dueWay("A={a*nb{an}};B={a*tb{at}}", 207, 0, 8);
        dueWay("A={a>nnb{an}};B={a>ntb{at}}", 309, 0, 10);
    }

    /** "9 PART 0 of a FUNCTION (both change sides by it)". */
    private static void bothChangeSides() {
        dueWay("A=>nn;B=>tn", 401, 9);
        dueWay("A=>>nnn;B=>>tnn", 207, 9, 9);
        dueWay("A=>>>nnnn;B=>>>tnnn", 1003, 9, 9, 9);
        dueWay("A=>n>nn;B=>n>tn", 803, 10, 9);
        dueWay("A=>>nnn;B=>>ntn", 803, 9, 10);
        dueWay("A=>{anbn}n;B=>{an}n", 601, 9);
        dueWay("A=>{an}n;B=>{at}n", 602, 9, 0);
        dueWay("A=>{}n;B=>[]n", 401, 9);
    }

    /** "a letter as 0 to 7, 8 the PART of a LIST, 9 PART 0 of a FUNCTION, 10 PART 1". */
    private static void stepsAreNumbered() {
        for (int letter = 0; letter < 8; letter++) {
            char sign = (char) ('a' + letter);
            dueWay("A={" + sign + "n};B={" + sign + "t}", 103, letter);
            dueWay("A=[" + sign + "n];B=[" + sign + "t]", 103, letter);
        }
        dueWay("A=*n;B=*t", 103, 8);
        dueWay("A=>n.;B=>t.", 401, 9);
        dueWay("A=>nn;B=>n!", 205, 10);
        dueWay("A={h*>[c>nn]n};B={h*>[c>nt]n}", 1406, 7, 8, 9, 2, 10);
    }

    private static void theWayHasNoStepsOrVeryMany() {
        dueWay("A=n;B=t", 1);
        dueWay("A={};B={an}", 1);
        dueWay("A=[an];B=[]", 2);
        dueWay("A=.;B=!", 1);
        dueWay("A=*n;B=n", 2);
        dueWay("A=>nn;B=n", 3);
        dueWay("A=n;B=>nn", 1);
        dueWay("A=*>nn;B=**n", 105, 8);
        dueWay("A=************n;B=************t", 1225, 8, 8, 8, 8, 8, 8, 8, 8, 8, 8, 8, 8);
        KindNets x = lateMisfit();
        int b = x.name(1);
        due("a long way", x.way(0, b, -1), 131);
        due("its first step", x.way(0, b, 0), 0);
        due("its last step", x.way(0, b, 130), 0);
        due("behind its last step", x.way(0, b, 131), NONE);
        due("its end", x.end(0, b), 100 * 10 + b + 11);
    }

    /** "NONE (also: it MAY)". */
    private static void noneWhereItMay() {
        KindNets x = taken("A={aAbn};B={aB};C=!;D=.;E=*n");
        int[] js = {-1, 0, 1, -2, LEAST_INT, MOST_INT};
        int[][] pairs = {{0, 2}, {0, 0}, {3, 0}, {5, 4}, {3, 4}};
        for (int[] pair : pairs) {
            due("may " + pair[0] + " " + pair[1], x.may(pair[0], pair[1]), 1);
            for (int j : js) {
                due("way " + pair[0] + " " + pair[1] + " " + j, x.way(pair[0], pair[1], j), NONE);
            }
            due("end " + pair[0] + " " + pair[1], x.end(pair[0], pair[1]), NONE);
        }
    }

    /** "100 times the one that would stand, and the other". */
    private static void theTwoAtTheEnd() {
        KindNets x = taken("A=n;B=t;C={aA};D={aB}");
        due("0 and 1", x.end(0, 1), 1);
        due("1 and 0", x.end(1, 0), 100);
        due("within 2 and 3", x.end(2, 3), 1);
        due("within 3 and 2", x.end(3, 2), 100);
        due("2 and 0", x.end(2, 0), 200);
        for (int made = 4; made < 60; made++) {
            due("made", x.join(0, 1, made % 2), made);
        }
        due("the last two", x.end(58, 59), 5859);
        due("the last two, turned", x.end(59, 58), NONE);
        due("a made one", x.end(58, 0), 5800);
        due("a made one of another kind", x.may(59, 58) + x.may(58, 0), 1);
    }

    /** "ALIKE: each MAY STAND for the other." */
    private static void alikeIsBothWays() {
        KindNets x = taken("A={an};B={an};C={anbn};D={a.}");
        int[][] rows = {{0, 2, 1}, {2, 0, 1}, {0, 0, 1}, {0, 4, 0}, {4, 0, 0}, {0, 7, 0}, {7, 0, 0}, {1, 3, 1}, {1, 8, 0},
            {8, 1, 0}};
        for (int[] row : rows) {
            due("alike " + row[0] + " " + row[1], x.alike(row[0], row[1]), row[2]);
        }
    }

    private static void duePieces(String text, int want) {
        KindNets x = taken(text);
        due("pieces of A in " + text, x.pieces(x.name(0)), want);
    }

    /** "how many unlike NODES are among it and what it holds, and so on". */
    private static void piecesAreUnlike() {
        duePieces("A=n;B=t;C=s", 1);
        duePieces("A={}", 1);
        duePieces("A=[]", 1);
        duePieces("A=>AA", 1);
        duePieces("A=************A", 1);
        duePieces("A=************n", 13);
        duePieces("A={anbn}", 2);
        duePieces("A={a!b!c.d.}", 3);
        duePieces("A={a{bn}c{bnct}}", 5);
        duePieces("A=>{}[]", 3);
        duePieces("A=>{a[]}{a[]}", 3);
        duePieces("A={aB};B={aC};C={aD};D={aE};E={aF};F={aG};G={aH};H={aA}", 1);
        duePieces("A={aB};B={aC};C={aD};D={aE};E={aF};F={aG};G={aH};H={aAbn}", 9);
        duePieces("A={aB};B={aC};C={aDbn};D={aE};E={aF};F={aAbn}", 4);
        duePieces("A=[a>nn];B=A;C=t", 3);
        String all = "={aBbBcBdBeBfBgBhB}";
        duePieces("A" + all + ";B" + all.replace('B', 'C') + ";C" + all.replace('B', 'D') + ";D=n", 4);
        KindNets x = taken("A={a*nb{cn}};B=t");
        int[] pieces = {4, 2, 1, 2, 1, 1};
        for (int i = 0; i < pieces.length; i++) {
            due("pieces " + i, x.pieces(i), pieces[i]);
        }
    }

    private static void piecesAcrossMadeNodes() {
        KindNets x = taken("A={an};B={at};C={a.}");
        due("above", x.join(0, 2, 0), 6);
        due("the made one is like C", x.alike(6, 4), 1);
        due("pieces of a made one", x.pieces(6), 2);
        due("below", x.join(0, 2, 1), 8);
        due("pieces of what stands for all", x.pieces(8), 2);
        due("the made ones are unlike", x.alike(6, 8), 0);
        due("below stands for above", x.may(8, 6), 1);
    }

    /** What was asked before a NODE was made does not hide what it does not fit. */
    private static void madeNodesAndOlderOnes() {
        KindNets x = taken("A={an};B={at};C={a*n};D={a*t}");
        due("pairs", x.told(4), 4);
        due("above", x.join(0, 2, 0), 10);
        due("below", x.join(0, 2, 1), 12);
        due("above of lists", x.join(4, 7, 0), 14);
        int[][] rows = {{10, 0, 0, 1101}, {0, 10, 1, NONE}, {0, 12, 0, 113}, {12, 0, 1, NONE}, {14, 10, 1, NONE},
            {14, 4, 0, 1606}, {4, 14, 1, NONE}, {10, 14, 0, 1115}, {12, 14, 1, NONE}, {14, 12, 0, 1513}};
        for (int[] row : rows) {
            due("may " + row[0] + " " + row[1], x.may(row[0], row[1]), row[2]);
            due("end " + row[0] + " " + row[1], x.end(row[0], row[1]), row[3]);
        }
        due("a step from a made one", x.way(14, 4, 1), 8);
        due("steps from a made one", x.way(14, 4, -1), 2);
    }

    /** "UNKNOWN" of each call here, at the last NODE and behind it. */
    private static void unknownNodes() {
        KindNets x = taken("A={an};B=t");
        int[] unknown = {3, 4, 40, 60, 100, -1, NONE, LEAST_INT, MOST_INT};
        for (int i : unknown) {
            for (int k = 0; k < 3; k++) {
                due("may " + i + " " + k, x.may(i, k), UNKNOWN);
                due("may " + k + " " + i, x.may(k, i), UNKNOWN);
                due("alike " + i + " " + k, x.alike(i, k), UNKNOWN);
                due("alike " + k + " " + i, x.alike(k, i), UNKNOWN);
                due("way " + i + " " + k, x.way(i, k, -1), UNKNOWN);
                due("way " + k + " " + i, x.way(k, i, -7), UNKNOWN);
                due("end " + i + " " + k, x.end(i, k), UNKNOWN);
                due("end " + k + " " + i, x.end(k, i), UNKNOWN);
            }
            due("may " + i, x.may(i, i), UNKNOWN);
            due("alike " + i, x.alike(i, i), UNKNOWN);
            due("way " + i, x.way(i, i, 0), UNKNOWN);
            due("end " + i, x.end(i, i), UNKNOWN);
            due("pieces " + i, x.pieces(i), UNKNOWN);
        }
        due("the last node", x.may(2, 2) + x.alike(2, 2) + x.pieces(2), 3);
    }
}
