/** Section 1 and promises 1 to 7: each sentence that names a limit, at the last taken and the first refused. */
public final class TextEdgesTest extends Checks {
    private static final String KIND = "nts.!ABCDEFGH{[*>";
    private static final String EIGHT_NAMES = "A=n;B=n;C=n;D=n;E=n;F=n;G=n;H=n";
    /** Within 12 others, by each sign that has PARTS. */
    private static final String[] TWELVE_DEEP = {"A=" + "*".repeat(12), "A=" + "{a".repeat(12), "A=" + "[h".repeat(12),
        "A=" + ">".repeat(12), "A=" + ">n".repeat(12), "A={b[c*>n>{g*[h>t*>n{a"};

    public static void main(String[] args) {
        signsHaveCodes33To126();
        hundredSignsLieOnThePad();
        wipeTellsHowManyThereWere();
        signsThatWentAreNotRead();
        aTextGoesOnWithTheseSignsAlone();
        lettersRiseFromAToH();
        thereMayBeNoFieldsAndNoCases();
        noKindLiesWithinMoreThan12();
        oneOrMoreNamings();
        noNameIsToldTwice();
        behindTheLastSignTheFaultIsTheirNumber();
        whichNamesAreToldDoesNotMatterForTheFault();
        eachNameIsTold();
        noNameStandsForItselfByNamesAlone();
        fortyNodesAreTaken();
        noAheadOfFull();
        namesAreNoNodes();
        nodesAreNumberedAsWritten();
        theTextReplacesAll();
        whatWasAskedAheadIsAskedAnew();
        namesAreAToH();
        partsOfNodes();
        close("the edges of texts hold");
    }

    /** "SIGNS (codes 33 to 126)"; "OUTSIDE". */
    private static void signsHaveCodes33To126() {
        for (int from = -200; from < 400; from += 100) {
            KindNets x = new KindNets();
            for (int sign = from; sign < from + 100; sign++) {
                boolean isSign = sign >= 33 && sign <= 126;
                due("say " + sign, x.say(sign), isSign ? 1 : OUTSIDE);
                due("wipe behind say " + sign, x.wipe(), isSign ? 1 : 0);
            }
        }
        int[] far = {LEAST_INT, MOST_INT, 65 + 256, 65 + 65536, 65 - 65536};
        for (int sign : far) {
            due("say " + sign, new KindNets().say(sign), OUTSIDE);
        }
    }

    /** "laid on a PAD, 100 at most"; "OUTSIDE" is ahead of "FULL". */
    private static void hundredSignsLieOnThePad() {
        KindNets x = laid("n".repeat(99));
        due("say the 100th", x.say('!'), 100);
        due("say the 101st", x.say('n'), FULL);
        due("say the 101st again", x.say('~'), FULL);
        due("say 32 on a full pad", x.say(32), OUTSIDE);
        due("say 127 on a full pad", x.say(127), OUTSIDE);
        due("signs on a full pad", x.told(0), 100);
        due("wipe of a full pad", x.wipe(), 100);
        due("say on a wiped pad", x.say('n'), 1);
        String row = "={aAbAcAdAeAfAgAhA};";
        String most = "A" + row + "B" + row + "C" + row + "D" + row + "E=";
        x = laid(most + "*>>>>>>AAAAAA");
        due("fault of 99 signs that want one more", x.fault(), 99);
        due("say the last one", x.say('A'), 100);
        due("fault of a text of 100 signs", x.fault(), NONE);
        due("take of a text of 100 signs", x.take(), 11);
        due("the pad is empty then", x.told(0), 0);
        x = laid(most + ">>>>>>>AAAAAAA");
        due("fault of 100 signs that want one more", x.fault(), 100);
        due("say the one that lacks", x.say('A'), FULL);
        due("fault still", x.fault(), 100);
        due("take of what wants one more", x.take(), NO);
        due("signs still", x.wipe(), 100);
    }

    /** "Signs go: how many there were." */
    private static void wipeTellsHowManyThereWere() {
        KindNets x = new KindNets();
        due("wipe of an empty pad", x.wipe(), 0);
        x.say('A');
        due("wipe of one", x.wipe(), 1);
        due("wipe again", x.wipe(), 0);
        x = taken("A={an};B=t");
        lay(x, "(1)");
        due("wipe of three", x.wipe(), 3);
        due("nodes stay", x.told(1), 3);
        due("names stay", x.told(2), 2);
    }

    private static void signsThatWentAreNotRead() {
        KindNets x = laid("A=nn");
        due("fault of four", x.fault(), 3);
        lay(x, "A=n");
        due("fault of three", x.fault(), NONE);
        lay(x, "A=");
        due("fault of two", x.fault(), 2);
        due("take of two", x.take(), NO);
        lay(x, "A={an}");
        due("take", x.take(), 2);
        lay(x, "A={");
        due("fault where signs of a text that was taken lay", x.fault(), 3);
        lay(x, "");
        due("fault of none", x.fault(), 0);
        lay(x, "B={anb{cn");
        due("fault of one that is not whole", x.fault(), 9);
        lay(x, "B=n");
        due("fault behind one that is not whole", x.fault(), NONE);
        due("take behind one that is not whole", x.take(), 1);
        due("a name that was read but not taken", x.name(0), NONE);
    }

    /** Behind a beginning just these signs go on; every other one is THE FAULT, at its place. */
    private static void dueNext(String begin, String signs) {
        for (char sign = 33; sign <= 126; sign++) {
            boolean goesOn = laid(begin + sign).fault() != begin.length();
            due(begin + " goes on with " + sign, goesOn ? 1 : 0, signs.indexOf(sign) >= 0 ? 1 : 0);
        }
    }

    /** "the first place at which no sign could make a TEXT go on as it stands". */
    private static void aTextGoesOnWithTheseSignsAlone() {
        dueNext("", "ABCDEFGH");
        dueNext("A", "=");
        dueNext("H", "=");
        dueNext("A=", KIND);
        String[] whole = {"n", "t", "s", ".", "!", "A", "H", "{}", "[]", "*n", ">nn", "{an}", "[hA]", "*>A*[]"};
        for (String kind : whole) {
            dueNext("D=" + kind, ";");
            due("fault of D=" + kind, laid("D=" + kind).fault(), NONE);
            dueNext("A={a" + kind, "}bcdefgh");
            dueNext("A=[f" + kind, "]gh");
            dueNext("A=*" + kind, ";");
            dueNext("A=>" + kind, KIND);
            dueNext("A=>n" + kind, ";");
        }
        dueNext("A=n;", "BCDEFGH");
        dueNext("A=n;B", "=");
        dueNext("A=n;B=", KIND);
        dueNext("A=*", KIND);
        dueNext("A=>", KIND);
    }

    /** "each a letter a to h, rising, and a KIND behind it". */
    private static void lettersRiseFromAToH() {
        String[] pairs = {"{}", "[]"};
        for (String pair : pairs) {
            char open = pair.charAt(0);
            char shut = pair.charAt(1);
            dueNext("A=" + open, shut + "abcdefgh");
            for (char letter = 'a'; letter <= 'h'; letter++) {
                dueNext("A=" + open + letter, KIND);
                dueNext("A=" + open + letter + "n", shut + "abcdefgh".substring(letter - 'a' + 1));
            }
            due("all eight in " + pair, laid("A=" + open + "anbncndnenfngnhn" + shut).fault(), NONE);
            due("nine in " + pair, laid("A=" + open + "anbncndnenfngnhnin" + shut).fault(), 19);
            due("letters of one within do not count", laid("A=" + open + "a{hn}b[gn]cn" + shut).fault(), NONE);
            due("letters of one ahead do not count", laid("A={hn};B=" + open + "an" + shut).fault(), NONE);
        }
    }

    /** "there may be none". */
    private static void thereMayBeNoFieldsAndNoCases() {
        due("no fields", taken("A={}").node(0, 8), 0);
        due("no cases", taken("A=[]").node(0, 8), 0);
        due("fault of a record that is shut by ]", laid("A={]").fault(), 3);
        due("fault of a choice that is shut by }", laid("A=[}").fault(), 3);
    }

    /** "No KIND lies within more than 12 others (so none that has PARTS by need .. nor a letter ..)". */
    private static void noKindLiesWithinMoreThan12() {
        for (String begin : TWELVE_DEEP) {
            dueNext(begin, "nts.!ABCDEFGH{[");
            dueNext(begin + "{", "}");
            dueNext(begin + "[", "]");
        }
        String[] elevenDeep = {"A=" + "*".repeat(11), "A=" + "{a".repeat(11), "A=" + "[h".repeat(11),
            "A=" + ">".repeat(11), "A=" + ">n".repeat(11)};
        for (String begin : elevenDeep) {
            dueNext(begin, KIND);
            dueNext(begin + "{", "}abcdefgh");
            dueNext(begin + "[", "]abcdefgh");
            dueNext(begin + "{a", "nts.!ABCDEFGH{[");
            dueNext(begin + ">", "nts.!ABCDEFGH{[");
            dueNext(begin + ">n", "nts.!ABCDEFGH{[");
        }
        due("take of n within 12", laid("A=" + "*".repeat(12) + "n").take(), 13);
        due("take of n within 13", laid("A=" + "*".repeat(13) + "n").take(), NO);
        due("take of {} within 12", laid("A=" + "*".repeat(12) + "{}").take(), 13);
        due("a name within 12 brings more", laid("A=" + "*".repeat(12) + "B;B=" + "*".repeat(12) + "A").take(), 24);
        due("deep ones beside one another", laid("A=>" + "*".repeat(11) + "n" + "*".repeat(11) + "n").take(), 25);
        due("deep again behind ;", laid("A=" + "*".repeat(12) + "n;B=" + "*".repeat(13)).fault(), 30);
    }

    /** "one or more of NAME, =, KIND, with a ; between two". */
    private static void oneOrMoreNamings() {
        String[] rows = {" 0", "; 0", "A=n -6", ";A=n 0", "A=n; 4", "A=n;; 4", "A=n;B=n -6", "A=nB=n 3", "A=n;B=n; 8",
            "A=n;n 4", "A=n,B=n 3", "A==n 2", "A=;B=n 2", "AB=n 1", "=n 0", "A=n;=n 4"};
        for (String row : rows) {
            int gap = row.indexOf(' ');
            String text = row.substring(0, gap);
            int fault = Integer.parseInt(row.substring(gap + 1));
            due("fault of " + text, laid(text).fault(), fault);
            if (fault != NONE) {
                due("take of " + text, laid(text).take(), NO);
            }
        }
    }

    /** "no NAME told twice". */
    private static void noNameIsToldTwice() {
        for (char name = 'A'; name <= 'H'; name++) {
            String others = "ABCDEFGH".replace(String.valueOf(name), "");
            dueNext(name + "=n;", others);
            char third = others.charAt(0);
            dueNext(name + "=n;" + third + "=n;", others.substring(1));
            due("twice " + name, laid(name + "=n;" + name).fault(), 4);
            due("take of twice " + name, laid(name + "=n;" + name + "=n").take(), NO);
        }
        due("twice far", laid(EIGHT_NAMES.substring(0, 28) + "A=n").fault(), 28);
        due("a name stands in many kinds", laid("A={aAbAcA};B=>AA").fault(), NONE);
    }

    /** "behind the last sign: their number". */
    private static void behindTheLastSignTheFaultIsTheirNumber() {
        String text = "C={a*nb[c>DEd!e{}]};D=.;E=[]";
        for (int cut = 0; cut < text.length(); cut++) {
            boolean whole = text.charAt(cut) == ';';
            due("fault of " + text.substring(0, cut), laid(text.substring(0, cut)).fault(), whole ? NONE : cut);
        }
        due("fault of " + text, laid(text).fault(), NONE);
        due("fault of 98 stars", laid("A=" + "*".repeat(98)).fault(), 14);
        due("fault of 49 records", laid("A=" + "{}".repeat(49)).fault(), 4);
    }

    /** "(which NAMES are told does not matter for that)". */
    private static void whichNamesAreToldDoesNotMatterForTheFault() {
        due("a name that is not told", laid("A=B").fault(), NONE);
        due("names that are not told", laid("A={aBb*C};D=>EF").fault(), NONE);
        due("a name that stands for itself", laid("A=A").fault(), NONE);
        due("names that stand for one another", laid("A=B;B=A").fault(), NONE);
        due("eight names", laid(EIGHT_NAMES).fault(), NONE);
        due("eight names and ;", laid(EIGHT_NAMES + ";").fault(), 32);
        dueNext(EIGHT_NAMES, ";");
        dueNext(EIGHT_NAMES + ";", "");
        due("take of eight names and ;", laid(EIGHT_NAMES + ";").take(), NO);
        due("more than 40 nodes do not matter", laid(wide(41)).fault(), NONE);
    }

    /** "It may be taken, if each NAME in it is told by it". */
    private static void eachNameIsTold() {
        String[] no = {"A=B", "A=H", "B=A", "A={hB}", "A=[aB]", "A=*B", "A=>Bn", "A=>nB", "A=n;B=C", "A=n;B={aAbC}",
            "A=B;B=C;C=D;D=E;E=F;F=G;G=H", "A=************B"};
        for (String text : no) {
            due("take of " + text, laid(text).take(), NO);
        }
        due("told behind it", laid("A=B;B=n").take(), 1);
        due("told ahead of it", laid("B=n;A=B").take(), 1);
        KindNets x = taken("B=n;C=t");
        lay(x, "A=B");
        due("told by the text ahead only", x.take(), NO);
    }

    /** "no NAME stands for itself by NAMES alone (A=B;B=A, A=A)". */
    private static void noNameStandsForItselfByNamesAlone() {
        String names = "ABCDEFGH";
        for (int many = 1; many <= 8; many++) {
            StringBuilder chain = new StringBuilder();
            for (int n = 0; n < many - 1; n++) {
                chain.append(names.charAt(n)).append('=').append(names.charAt(n + 1)).append(';');
            }
            chain.append(names.charAt(many - 1)).append('=');
            due("round of " + many, laid(chain + "A").take(), NO);
            due("the last one for itself, " + many, laid(chain.toString() + names.charAt(many - 1)).take(), NO);
            KindNets x = laid(chain + "*A");
            due("not by names alone, " + many, x.take(), 1);
            due("its part, " + many, x.node(0, 0), 0);
            for (int n = 0; n < 8; n++) {
                due("name " + n + " of " + many, x.name(n), n < many ? 0 : NONE);
            }
        }
        due("beside one that may be taken", laid("A=n;B=C;C=B").take(), NO);
        due("held by one that may be taken", laid("A={aB};B=B").take(), NO);
        due("chain of eight told backwards", laid("H=G;G=F;F=E;E=D;D=C;C=B;B=A;A=s").take(), 1);
    }

    private static String wide(int nodes) {
        StringBuilder text = new StringBuilder("A=");
        int left = nodes;
        int open = 0;
        while (left > 8) {
            text.append("{anbncndnenfngnh");
            left -= 8;
            open++;
        }
        return text.append(">".repeat((left - 1) / 2)).append(left % 2 == 0 ? "*" : "")
            .append("n".repeat((left + 1) / 2)).append("}".repeat(open)).toString();
    }

    /** "there are 40 NODES at most"; "FULL: more than 40". */
    private static void fortyNodesAreTaken() {
        for (int nodes = 1; nodes <= 45; nodes++) {
            KindNets x = laid(wide(nodes));
            due("fault of " + nodes + " nodes", x.fault(), NONE);
            due("take of " + nodes + " nodes", x.take(), nodes <= 40 ? nodes : FULL);
            due("told of " + nodes + " nodes", x.told(1), nodes <= 40 ? nodes : 0);
            due("the last of " + nodes + " nodes", x.node(nodes - 1, -1), nodes <= 40 ? 'n' : UNKNOWN);
            due("behind the last of " + nodes + " nodes", x.node(nodes, -1), UNKNOWN);
        }
        due("over names: 40", laid(wide(39) + ";B=n").take(), 40);
        due("over names: 41", laid(wide(40) + ";B=n").take(), FULL);
        due("40 of functions and a list", laid("A=*" + functions(39)).take(), 40);
        due("41 of functions", laid("A=" + functions(41)).take(), FULL);
        String most = "A=*" + functions(97);
        due("the most nodes that a pad holds", laid(most).take(), FULL);
        due("and a fault behind the first of them", laid(most.substring(0, 99)).take(), NO);
    }

    /** As many NODES as signs, an odd number of them, none deep. */
    private static String functions(int nodes) {
        if (nodes < 3) {
            return "n";
        }
        int first = (nodes - 1) / 2 | 1;
        return ">" + functions(first) + functions(nodes - 1 - first);
    }

    /** "NO .. (ahead of FULL)". */
    private static void noAheadOfFull() {
        due("41 nodes", laid(wide(41)).take(), FULL);
        due("41 nodes and a fault", laid(wide(41) + ";").take(), NO);
        due("41 nodes and a fault", laid(wide(41) + "n").take(), NO);
        due("41 nodes and a name that is not told", laid(wide(41) + ";B=C").take(), NO);
        due("41 nodes and a name for itself", laid(wide(41) + ";B=B").take(), NO);
        due("41 nodes and two names for one another", laid(wide(41) + ";B=C;C=B").take(), NO);
    }

    /** "NODES are all KINDS in it that are no NAMES"; "a NAME is the NODE that it comes to". */
    private static void namesAreNoNodes() {
        due("names beside 40 nodes", laid(wide(40) + ";B=A;C=B").take(), 40);
        KindNets x = taken("C=D;D={aEbE};E=F;F=*C");
        due("nodes", x.told(1), 2);
        due("names", x.told(2), 4);
        int[] comesTo = {NONE, NONE, 0, 0, 1, 1, NONE, NONE};
        for (int n = 0; n < 8; n++) {
            due("name " + n, x.name(n), comesTo[n]);
        }
        due("part a", x.node(0, 0), 1);
        due("part b", x.node(0, 1), 1);
        due("part of the list", x.node(1, 0), 0);
    }

    /** "numbered as they are written". */
    private static void nodesAreNumberedAsWritten() {
        KindNets x = taken("B=>{cnd[hs]}*t;A=.;C={a!b[]}");
        String signs = ">{n[s*t.{![";
        for (int i = 0; i < signs.length(); i++) {
            due("sign of " + i, x.node(i, -1), signs.charAt(i));
        }
        due("nodes", x.told(1), signs.length());
        due("B", x.name(1), 0);
        due("A", x.name(0), 7);
        due("C", x.name(2), 8);
    }

    /** "It replaces all NODES and NAMES"; "(the PAD is empty then)". */
    private static void theTextReplacesAll() {
        KindNets x = taken("A={anbt};B=*A;H=t");
        due("pad", x.told(0), 0);
        due("join", x.join(1, 2, 0), 5);
        lay(x, "C=>ns");
        due("take of fewer", x.take(), 3);
        due("pad again", x.told(0), 0);
        for (int n = 0; n < 8; n++) {
            due("name " + n, x.name(n), n == 2 ? 0 : NONE);
        }
        due("names", x.told(2), 1);
        due("node 2", x.node(2, -1), 's');
        due("node 3", x.node(3, -1), UNKNOWN);
        due("an old letter", x.node(0, 3), NONE);
        due("how many parts", x.node(0, 8), 2);
        due("may", x.may(1, 2), 0);
        lay(x, "A=n;C=n");
        due("take again", x.take(), 2);
        due("may of the new ones", x.may(0, 1), 1);
        due("no parts", x.node(0, 8), 0);
    }

    /** With fewer NODES than before, as many, and more. */
    private static void whatWasAskedAheadIsAskedAnew() {
        String[] texts = {"A={anbt};B=*n", "A=[anbt];B=!", "A=!;B=n", "A=n;B=.", "A={aA};B={aB};C=s;D=t;E=.;F=!",
            "A=>nn;B=[a{}]", "A={anbt};B=*n"};
        KindNets x = new KindNets();
        for (String text : texts) {
            lay(x, text);
            KindNets anew = laid(text);
            due("take of " + text, x.take(), anew.take());
            for (int i = 0; i < anew.told(1); i++) {
                due("may 0 " + i + " of " + text, x.may(0, i), anew.may(0, i));
                due("end " + i + " 1 of " + text, x.end(i, 1), anew.end(i, 1));
                due("pieces " + i + " of " + text, x.pieces(i), anew.pieces(i));
                due("count " + i + " of " + text, x.count(i, 1), anew.count(i, 1));
                due("least " + i + " of " + text, x.least(i), anew.least(i));
            }
            for (int what = 0; what <= 4; what++) {
                due("told " + what + " of " + text, x.told(what), anew.told(what));
            }
            due("join of " + text, x.join(0, 1, 0), anew.join(0, 1, 0));
            due("nodes of " + text, x.told(1), anew.told(1));
        }
    }

    /** "0 for A"; "NONE: it is not told"; "UNKNOWN". */
    private static void namesAreAToH() {
        KindNets none = new KindNets();
        KindNets all = taken(EIGHT_NAMES);
        for (int n = 0; n < 8; n++) {
            due("no name " + n, none.name(n), NONE);
            due("name " + n, all.name(n), n);
        }
        int[] unknown = {-1, 8, 'A', LEAST_INT, MOST_INT, NONE};
        for (int n : unknown) {
            due("name " + n, none.name(n), UNKNOWN);
            due("name " + n, all.name(n), UNKNOWN);
        }
        due("names", all.told(2), 8);
    }

    /** "-1 its sign, 0 to 7 the PART at a letter, of a LIST, FUNCTION at 0, 1; NONE; 8 how many PARTS". */
    private static void partsOfNodes() {
        KindNets x = taken("A={anbtcsd.e!f*Ag>ABh[]};B={};C=[anbtcsd.e!f*Ag>ABhn]");
        due("sign of a record", x.node(0, -1), '{');
        due("parts of eight letters", x.node(0, 8), 8);
        int[] parts = {1, 2, 3, 4, 5, 6, 7, 8};
        for (int letter = 0; letter < 8; letter++) {
            due("part " + letter, x.node(0, letter), parts[letter]);
        }
        int[][] rows = {{6, '*', 1, 0, NONE}, {7, '>', 2, 0, 9}, {8, '[', 0, NONE, NONE}, {9, '{', 0, NONE, NONE},
            {1, 'n', 0, NONE, NONE}, {2, 't', 0, NONE, NONE}, {3, 's', 0, NONE, NONE}, {4, '.', 0, NONE, NONE},
            {5, '!', 0, NONE, NONE}, {10, '[', 8, 11, 12}};
        for (int[] row : rows) {
            due("sign of " + row[0], x.node(row[0], -1), row[1]);
            due("parts of " + row[0], x.node(row[0], 8), row[2]);
            due("part 0 of " + row[0], x.node(row[0], 0), row[3]);
            due("part 1 of " + row[0], x.node(row[0], 1), row[4]);
            due("what -2", x.node(row[0], -2), OUTSIDE);
            due("what 9", x.node(row[0], 9), OUTSIDE);
        }
        for (int letter = 2; letter < 8; letter++) {
            due("part " + letter + " of a list", x.node(6, letter), NONE);
            due("part " + letter + " of a function", x.node(7, letter), NONE);
        }
        due("node behind the last", x.node(x.told(1), 9), UNKNOWN);
        due("the last node", x.node(x.told(1) - 1, 9), OUTSIDE);
        for (int i : NO_NODES) {
            due("node " + i, x.node(i, 0), UNKNOWN);
            due("node ahead of what " + i, x.node(i, -2), UNKNOWN);
        }
    }
}
