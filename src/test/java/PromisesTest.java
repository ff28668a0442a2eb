/** Promise by promise: ordinary inputs, the edges that the document names, wrong inputs. */
public final class PromisesTest extends Checks {
    public static void main(String[] args) {
        newObject();
        saying();
        wiping();
        faults();
        taking();
        names();
        nodes();
        standing();
        ways();
        ends();
        alikes();
        pieces();
        joins();
        joinsThatHoldThemselves();
        fullJoins();
        slips();
        fitting();
        sizes();
        counting();
        leasts();
        telling();
        close("the promises hold");
    }

    /** Promise 1. */
    private static void newObject() {
        KindNets x = new KindNets();
        for (int what = 0; what <= 4; what++) {
            due("new told " + what, x.told(what), 0);
        }
        for (int n = 0; n < 8; n++) {
            due("new name " + n, x.name(n), NONE);
        }
        due("new fault", x.fault(), 0);
        due("new slip", x.slip(), 0);
        due("new take", x.take(), NO);
        due("new size", x.size(), NO);
        due("new wipe", x.wipe(), 0);
        due("new node", x.node(0, -1), UNKNOWN);
        due("new fits", x.fits(0), UNKNOWN);
        due("new count", x.count(0, 99), UNKNOWN);
    }

    /** Promise 2. */
    private static void saying() {
        KindNets x = new KindNets();
        int[] none = {32, 127, 0, -1, 255, LEAST_INT, MOST_INT};
        for (int sign : none) {
            due("say " + sign, x.say(sign), OUTSIDE);
        }
        due("say 33", x.say(33), 1);
        due("say 126", x.say(126), 2);
        for (int many = 3; many <= 100; many++) {
            due("say the " + many + ".", x.say('n'), many);
        }
        due("say one too many", x.say('n'), FULL);
        due("say what is no sign on a full pad", x.say(32), OUTSIDE);
        due("told of a full pad", x.told(0), 100);
    }

    /** Promise 3. */
    private static void wiping() {
        KindNets x = laid("A=n");
        due("wipe", x.wipe(), 3);
        due("wipe again", x.wipe(), 0);
        due("told when wiped", x.told(0), 0);
        due("say when wiped", x.say('A'), 1);
        x = taken("A=n");
        lay(x, "12345");
        due("wipe leaves nodes", x.wipe() + x.told(1), 6);
    }

    private static void dueFault(String text, int want) {
        due("fault of " + text, laid(text).fault(), want);
    }

    /** Promise 4. */
    private static void faults() {
        String[] whole = {"A=n", "H=t", "A=s;B=.", "B=!;A=B", "A={}", "A=[]", "A={anbncndnenfngnhn}",
            "A=[hA]", "A=*A", "A=>AA", "A=B", "A=A", "A={a{b{cn}}dn}", "A=B;B=A", "A=>{an}[b*n]"};
        for (String text : whole) {
            dueFault(text, NONE);
            for (int cut = 0; cut < 3; cut++) {
                dueFault(text.substring(0, cut), cut);
            }
        }
        String[] spoilt = {"a=n 0", "I=n 0", "=n 0", "An 1", "A;n 1", "A=a 2", "A=; 2", "A=} 2", "A=I 2",
            "A=nn 3", "A=n} 3", "A=n;A=n 4", "A=n;B=n;A=n 8", "A=n;; 4", "A=n; 4", "A=n;B 5", "A=n;B= 6",
            "A={an 5", "A={ 3", "A={a 4", "A={a} 4", "A={an] 5", "A=[an} 5", "A={anan} 5", "A={bnan} 5",
            "A={in} 3", "A={An} 3", "A={a;} 4", "A=* 3", "A=> 3", "A=>n 4", "A=>nnn 5", "A=*} 3",
            "A={h{an}an} 8", "A={a{bn}bn} -6", "A={anb} 6", "A=n= 3", "A=n;=n 4", "A={{}} 3", "A=[[]] 3"};
        for (String row : spoilt) {
            int gap = row.indexOf(' ');
            dueFault(row.substring(0, gap), Integer.parseInt(row.substring(gap + 1)));
        }
        deepFaults();
        String eight = "A=n;B=n;C=n;D=n;E=n;F=n;G=n;H=n";
        dueFault(eight, NONE);
        dueFault(eight + ";", 32);
        dueFault(eight + ";A=n", 32);
        due("fault changes nothing", laid(eight).told(0), 31);
    }

    /** A KIND within 12 others may stand, but none that would need one within 13. */
    private static void deepFaults() {
        String stars = "A=************";
        dueFault(stars + "n", NONE);
        dueFault(stars + "B", NONE);
        dueFault(stars + "{}", NONE);
        dueFault(stars + "[]", NONE);
        dueFault(stars, 14);
        dueFault(stars + "*n", 14);
        dueFault(stars + "*", 14);
        dueFault(stars + ">nn", 14);
        dueFault(stars + "{an}", 15);
        dueFault(stars + "[an]", 15);
        dueFault(stars + "{", 15);
        dueFault("A=***********{a{}b*n}", 18);
        dueFault("A=***********>n[]", NONE);
        dueFault("A=***********>n>", 15);
    }

    private static void dueTake(String text, int want) {
        KindNets x = taken("H={an}");
        lay(x, text);
        due("take of " + text, x.take(), want);
        due("told 1 behind take of " + text, x.told(1), want < 0 ? 2 : want);
        due("told 0 behind take of " + text, x.told(0), want < 0 ? text.length() : 0);
        if (want < 0) {
            due("name behind refused take of " + text, x.name(7), 0);
            due("may behind refused take of " + text, x.may(1, 0), 0);
        }
    }

    /** Promise 5. */
    private static void taking() {
        dueTake("A=n", 1);
        dueTake("A=n;B=A;C=B", 1);
        dueTake("A={anbAc[d*tes]}", 6);
        dueTake("", NO);
        dueTake("A=", NO);
        dueTake("A=nn", NO);
        dueTake("A=B", NO);
        dueTake("A={aB}", NO);
        dueTake("A={aB};C=n", NO);
        dueTake("A=A", NO);
        dueTake("A=B;B=A", NO);
        dueTake("A=B;B=C;C=D;D=E;E=F;F=G;G=H;H=A", NO);
        dueTake("A=n;B=B", NO);
        dueTake("A=B;B=C;C=C", NO);
        dueTake("A=B;B=C;C=D;D=E;E=F;F=G;G=H;H=n", 1);
        dueTake("A=B;B=C;C=D;D=E;E=F;F=G;G=H;H={aA}", 1);
        String eight = "{anbncndnenfngn";
        String forty = eight + "h" + eight + "h" + eight + "h" + eight + "h" + eight;
        dueTake("A=" + forty + "}}}}}", 40);
        dueTake("A=" + forty + "}}}}};B=A", 40);
        dueTake("A=" + forty + "hA}}}}}", 40);
        dueTake("A=" + forty + "hn}}}}}", FULL);
        dueTake("A=" + forty + "}}}}};B=n", FULL);
        dueTake("A=" + forty + "hn}}}}};B=B", NO);
        dueTake("A=" + forty + "hn}}}}};B=C", NO);
        dueTake("A=" + forty + "hn}}}}};", NO);
        KindNets x = taken("A={an};B=t");
        lay(x, "C=s");
        x.take();
        due("names are replaced", x.name(0), NONE);
        due("the new name", x.name(2), 0);
        due("names told", x.told(2), 1);
        due("nodes are replaced", x.node(1, -1), UNKNOWN);
    }

    /** Promise 6. */
    private static void names() {
        KindNets x = taken("C=D;D={aE};A=*C;E=n");
        int[] due = {1, NONE, 0, 0, 2, NONE, NONE, NONE};
        due("a part by a name", x.node(0, 0), 2);
        due("a part by a name of a name", x.node(1, 0), 0);
        for (int n = 0; n < 8; n++) {
            due("name " + n, x.name(n), due[n]);
        }
        int[] none = {-1, 8, LEAST_INT, MOST_INT};
        for (int n : none) {
            due("name " + n, x.name(n), UNKNOWN);
        }
    }

    /** Promise 7. */
    private static void nodes() {
        KindNets x = taken("A={bnh[]};B=[a>tsc*.d!]");
        String[] rows = {"{ b1 h2", "n", "[", "[ a4 c7 d9", "> a5 b6", "t", "s", "* a8", ".", "!"};
        for (int i = 0; i < rows.length; i++) {
            due("sign of node " + i, x.node(i, -1), rows[i].charAt(0));
            due("parts of node " + i, x.node(i, 8), rows[i].split(" ").length - 1);
            for (int letter = 0; letter < 8; letter++) {
                int at = rows[i].indexOf((char) ('a' + letter));
                int part = at < 1 ? NONE : rows[i].charAt(at + 1) - '0';
                due("node " + i + " " + letter, x.node(i, letter), part);
            }
            due("node " + i + " 9", x.node(i, 9), OUTSIDE);
            due("node " + i + " -2", x.node(i, -2), OUTSIDE);
            due("node far", x.node(i, MOST_INT), OUTSIDE);
            due("node far", x.node(i, LEAST_INT), OUTSIDE);
        }
        due("node 10", x.node(10, -1), UNKNOWN);
        for (int i : NO_NODES) {
            due("node " + i, x.node(i, 99), UNKNOWN);
        }
    }

    /** Whether A may stand for B, as 0 or 1; and, where both ways matter, B for A. */
    private static void dueMay(String one, String other, int want, int back) {
        KindNets x = taken("A=" + one + ";B=" + other);
        due(one + " may stand for " + other, x.may(x.name(0), x.name(1)), want);
        due(other + " may stand for " + one, x.may(x.name(1), x.name(0)), back);
        due(one + " alike " + other, x.alike(x.name(0), x.name(1)), want * back);
    }

    /** Promise 8. */
    private static void standing() {
        String[] all = {"n", "t", "s", ".", "!", "{}", "[]", "*n", ">nn", "{an}", "[an]"};
        for (int i = 0; i < all.length; i++) {
            dueMay("!", all[i], 1, all[i].equals("!") ? 1 : 0);
            dueMay(all[i], ".", 1, all[i].equals(".") ? 1 : 0);
            dueMay(all[i], all[i], 1, 1);
        }
        String[] unlike = {"n", "t", "s", "{}", "[]", "*n", ">nn"};
        for (int i = 0; i < unlike.length; i++) {
            for (int k = 0; k < i; k++) {
                dueMay(unlike[i], unlike[k], 0, 0);
            }
        }
        dueMay("{anbt}", "{an}", 1, 0);
        dueMay("{an}", "{bn}", 0, 0);
        dueMay("{an}", "{a.}", 1, 0);
        dueMay("{anbt}", "{a.}", 1, 0);
        dueMay("{an}", "{a.bt}", 0, 0);
        dueMay("[an]", "[anbt]", 1, 0);
        dueMay("[an]", "[a.bt]", 1, 0);
        dueMay("[a.]", "[anbt]", 0, 0);
        dueMay("*n", "*.", 1, 0);
        dueMay("*!", "*n", 1, 0);
        dueMay(">nn", ">n.", 1, 0);
        dueMay(">.n", ">nn", 1, 0);
        dueMay(">.n", ">n.", 1, 0);
        dueMay(">..", ">nn", 0, 0);
        dueMay(">>n.n", ">>nnn", 1, 0);
        dueMay("*A", "**B", 1, 1);
        dueMay("{aA}", "{a{aB}}", 1, 1);
        dueMay("{aAbn}", "{aB}", 1, 0);
        dueMay(">A{}", ">B{an}", 0, 0);
        dueMay(">{}A", ">{an}B", 1, 0);
        dueMay("[anb*A]", "[anb*Bct]", 1, 0);
        dueMay("[anb>An]", "[anb>Bnct]", 0, 0);
        KindNets x = taken("A=n");
        due("may itself", x.may(0, 0), 1);
        for (int i : NO_NODES) {
            due("may " + i, x.may(i, 0), UNKNOWN);
            due("may 0 " + i, x.may(0, i), UNKNOWN);
            due("alike " + i, x.alike(i, 0), UNKNOWN);
            due("alike 0 " + i, x.alike(0, i), UNKNOWN);
        }
        due("may 1", x.may(0, 1), UNKNOWN);
    }

    /** The way from A to B, told by its steps and the two at its end. */
    private static void dueWay(String text, int end, int... steps) {
        KindNets x = taken(text);
        int i = x.name(0);
        int k = x.name(1);
        due(text + " way -1", x.way(i, k, -1), steps.length);
        for (int j = 0; j < steps.length; j++) {
            due(text + " way " + j, x.way(i, k, j), steps[j]);
        }
        due(text + " way behind", x.way(i, k, steps.length), NONE);
        due(text + " way -2", x.way(i, k, -2), NONE);
        due(text + " way far", x.way(i, k, MOST_INT), NONE);
        due(text + " way far", x.way(i, k, LEAST_INT), NONE);
        due(text + " end", x.end(i, k), end);
    }

    /** Promise 9. */
    private static void ways() {
        dueWay("A=n;B=t", 1);
        dueWay("A={an};B={bn}", 2);
        dueWay("A=[an];B=[bn]", 2);
        dueWay("A=.;B=n", 1);
        dueWay("A={ancn};B={atct}", 104, 0);
        dueWay("A={ancnht};B={atctht}", 105, 0);
        dueWay("A={a{bn}cn};B={a{bt}ct}", 307, 2);
        dueWay("A=[b*nh*n];B=[a.b*th*t]", 208, 1, 8);
        dueWay("A=>n>nn;B=>n>tn", 803, 10, 9);
        dueWay("A=>>nnn;B=>>ntn", 803, 9, 10);
        dueWay("A=>>nnn;B=>>tnn", 207, 9, 9);
        dueWay("A=>*n*n;B=>*t*t", 702, 9, 8);
        dueWay("A={a*nb*n};B={a*tb*t}", 207, 0, 8);
        dueWay("A={aAbn};B={a{a{aBbt}bn}bn}", 105, 0, 0, 1);
        KindNets x = taken("A={aA};B={a{aB}};C=n;D=t");
        due("way where it may", x.way(0, 1, -1), NONE);
        due("way where it may", x.way(0, 1, 0), NONE);
        due("way to itself", x.way(3, 3, -1), NONE);
        for (int i : NO_NODES) {
            due("way " + i, x.way(i, 0, -1), UNKNOWN);
            due("way 0 " + i, x.way(0, i, 5), UNKNOWN);
        }
    }

    /** Promise 10. */
    private static void ends() {
        KindNets x = taken("A={aA};B={a{aB}};C=n;D=t");
        due("end where it may", x.end(0, 1), NONE);
        due("end of no steps", x.end(4, 3), 403);
        due("end of no steps", x.end(3, 4), 304);
        for (int i : NO_NODES) {
            due("end " + i, x.end(i, 0), UNKNOWN);
            due("end 0 " + i, x.end(0, i), UNKNOWN);
        }
    }

    /** Promise 11. */
    private static void alikes() {
        KindNets x = taken("A=[anb*A];B=[anb*[anb*B]];C=[anb*Cct]");
        int[] names = {x.name(0), x.name(1), x.name(2)};
        due("alike", x.alike(names[0], names[1]), 1);
        due("alike turned", x.alike(names[1], names[0]), 1);
        due("alike itself", x.alike(names[2], names[2]), 1);
        due("one way only", x.alike(names[0], names[2]), 0);
        due("other way only", x.alike(names[2], names[0]), 0);
    }

    private static void duePieces(String text, int want) {
        KindNets x = taken(text);
        due("pieces of A in " + text, x.pieces(x.name(0)), want);
    }

    /** Promise 12. */
    private static void pieces() {
        duePieces("A=n", 1);
        duePieces("A={}", 1);
        duePieces("A=*A", 1);
        duePieces("A=****A", 1);
        duePieces("A={anbncn}", 2);
        duePieces("A={anbtcsd.e!}", 6);
        duePieces("A={aBbC};B=*n;C=*n", 3);
        duePieces("A={aB};B={aC};C={aA};D=t", 1);
        duePieces("A={aB};B={aC};C={aAbn}", 4);
        duePieces("A=>{an}{anbn}", 4);
        KindNets x = taken("A=n");
        for (int i : NO_NODES) {
            due("pieces " + i, x.pieces(i), UNKNOWN);
        }
    }

    /** A NODE as it would be written, with / where it comes to itself again. */
    private static String written(KindNets x, int i, String above) {
        if (above.contains("<" + i + ">")) {
            return "/";
        }
        String here = above + "<" + i + ">";
        char sign = (char) x.node(i, -1);
        StringBuilder all = new StringBuilder().append(sign);
        for (int letter = 0; letter < 8; letter++) {
            int part = x.node(i, letter);
            if (part != NONE) {
                all.append(sign == '{' || sign == '[' ? String.valueOf((char) ('a' + letter)) : "");
                all.append(written(x, part, here));
            }
        }
        return all.append(sign == '{' ? "}" : sign == '[' ? "]" : "").toString();
    }

    private static void dueJoin(String one, String other, String above, String below) {
        for (int what = 0; what <= 1; what++) {
            KindNets x = taken("A=" + one + ";B=" + other);
            String got = written(x, x.join(x.name(0), x.name(1), what), "");
            String want = what == 0 ? above : below;
            if (!got.equals(want)) {
                due("join " + what + " of " + one + " and " + other + ": " + got + " for " + want, 0, 1);
            }
        }
    }

    /** Promise 13. */
    private static void joins() {
        dueJoin("n", "n", "n", "n");
        dueJoin("n", "t", ".", "!");
        dueJoin("n", ".", ".", "n");
        dueJoin("!", "n", "n", "!");
        dueJoin("{an}", "*n", ".", "!");
        dueJoin("{anbn}", "{bncn}", "{bn}", "{anbncn}");
        dueJoin("{anbn}", "{btcn}", "{b.}", "{anb!cn}");
        dueJoin("{an}", "{bn}", "{}", "{anbn}");
        dueJoin("[an]", "[bn]", "[anbn]", "[]");
        dueJoin("[anbn]", "[btcn]", "[anb.cn]", "[b!]");
        dueJoin("*n", "*t", "*.", "*!");
        dueJoin("*{anbn}", "*{bncn}", "*{bn}", "*{anbncn}");
        dueJoin(">nn", ">tt", ">!.", ">.!");
        dueJoin(">{anbn}*n", ">{bncn}*t", ">{anbncn}*.", ">{bn}*!");
        dueJoin(">>nn.", ">>tt.", ">>.!.", ">>!..");
        KindNets x = taken("A={an};B={an};C={anbn}");
        due("above of alike: the first", x.join(0, 2, 0), 0);
        due("above of alike: the first", x.join(2, 0, 0), 2);
        due("below of alike: the first", x.join(0, 2, 1), 0);
        due("below of alike: the first", x.join(2, 0, 1), 2);
        due("above of lesser", x.join(4, 2, 0), 2);
        due("above of greater", x.join(2, 4, 0), 2);
        due("below of lesser", x.join(4, 2, 1), 4);
        due("below of greater", x.join(2, 4, 1), 4);
        due("none is made", x.told(1), 7);
        due("join itself", x.join(1, 1, 1), 1);
        due("join 2", x.join(0, 0, 2), OUTSIDE);
        due("join -1", x.join(0, 0, -1), OUTSIDE);
        for (int i : NO_NODES) {
            due("join " + i, x.join(i, 0, 9), UNKNOWN);
            due("join 0 " + i, x.join(0, i, 9), UNKNOWN);
        }
        joinsInOrder();
    }

    /** A NODE ahead of its PARTS, each PART with all of it ahead of the next; anew at each asking. */
    private static void joinsInOrder() {
        KindNets x = taken("A={a*nb{cn}d.};B={a*tb{ct}dn}");
        due("above", x.join(0, 6, 0), 12);
        int[][] rows = {{12, -1, '{'}, {12, 0, 13}, {13, -1, '*'}, {13, 0, 14}, {14, -1, '.'}, {12, 1, 15},
            {15, -1, '{'}, {15, 2, 16}, {16, -1, '.'}, {12, 3, 5}, {12, 8, 3}};
        for (int[] row : rows) {
            due("node " + row[0] + " " + row[1], x.node(row[0], row[1]), row[2]);
        }
        due("nodes", x.told(1), 17);
        due("above again", x.join(0, 6, 0), 17);
        due("nodes again", x.told(1), 22);
        due("made ones are alike", x.alike(12, 17), 1);
        due("join of made ones", x.join(17, 12, 0), 17);
        due("made ones stand above", x.may(0, 12) + x.may(6, 12), 2);
        x = taken("A={anbncn};B={atbtct}");
        due("the same two", x.join(0, 4, 0), 8);
        due("each of its own two", x.node(8, 0) * 100 + x.node(8, 1), 910);
        x = taken("C=n;D=t;A={aCbCcD};B={aDbDcC}");
        due("the same two made once", x.join(2, 3, 0), 4);
        due("once for a and b", x.node(4, 0) * 100 + x.node(4, 1), 505);
        due("another for the turned ones", x.node(4, 2), 6);
    }

    private static void joinsThatHoldThemselves() {
        dueJoin("[anb*A]", "[atb*Bcn]", "[a.b*/cn]", "[a!b*/]");
        dueJoin("{aAbn}", "{aBcn}", "{a/}", "{a/bncn}");
        dueJoin(">An", ">Bt", ">>/!.", ">>/.!");
        KindNets x = taken("A={a{aAbn}bn};B={a{a{aBct}ct}ct}");
        due("rings of 2 and 3", x.join(x.name(0), x.name(1), 1), 10);
        due("six of them", x.told(1), 16);
        for (int made = 10; made < 16; made++) {
            due("ring", x.node(made, 0), made == 15 ? 10 : made + 1);
        }
        due("pieces of the ring", x.pieces(10), 3);
        due("it may stand for both", x.may(10, 0) + x.may(10, x.name(1)), 2);
        x = taken("A=>An;B=>Bt");
        due("above within below", x.join(0, 2, 0), 4);
        due("node 4", x.node(4, 0) * 100 + x.node(4, 1), 507);
        due("node 5", x.node(5, 0) * 100 + x.node(5, 1), 406);
    }

    /** Refused joins leave no NODES behind. */
    private static void fullJoins() {
        KindNets x = taken("A=n;B=t;C={an};D={at}");
        for (int made = 6; made < 60; made++) {
            due("join", x.join(0, 1, made % 2), made);
        }
        due("60 nodes", x.told(1), 60);
        due("one too many", x.join(0, 1, 0), FULL);
        due("outside ahead of full", x.join(0, 1, 2), OUTSIDE);
        due("unknown ahead of full", x.join(0, 60, 0), UNKNOWN);
        due("none needed", x.join(0, 58, 0), 58);
        due("60 nodes still", x.told(1), 60);
        x = taken("A=n;B=t;C={an};D={at}");
        for (int made = 6; made < 59; made++) {
            x.join(0, 1, 0);
        }
        due("59 nodes", x.told(1), 59);
        due("two more needed", x.join(2, 4, 0), FULL);
        due("59 nodes still", x.told(1), 59);
        due("no node 59", x.node(59, -1), UNKNOWN);
        due("one more", x.join(0, 1, 1), 59);
        due("its sign", x.node(59, -1), '!');
        due("its parts", x.node(59, 8), 0);
        due("it may stand", x.may(59, 2), 1);
        lay(x, "A=n");
        due("take replaces them", x.take(), 1);
        due("node 1 is gone", x.node(1, -1), UNKNOWN);
    }

    /** Promise 14. */
    private static void slips() {
        String[] rows = {"0 -6", "9 -6", "T -6", "F -6", "$a -6", "$z -6", "{} -6", "{a1h2} -6", "[a1] -6",
            "[h{}] -6", "() -6", "(1T$a(){}) -6", "{a{a1}bT} -6", "n 0", "t 0", "A 0", "~ 0", "$ 1", "$A 1", "$1 1",
            "${ 1", "12 1", "T{ 1", "{ 1", "{a 2", "{a} 2", "{a1 3", "{a1a1} 3", "{b1a1} 3", "{i1} 1", "{A1} 1",
            "{a1] 3", "[ 1", "[] 1", "[i1] 1", "[a] 2", "[a1 3", "[a1b2] 3", "[a1} 3", "( 1", "(1 2", "(1] 2",
            "(a) 1", ") 0", "} 0", "] 0", "()1 2", "(()) -6", "[a[b[c1]]] -6", "{h1} -6"};
        for (String row : rows) {
            int gap = row.indexOf(' ');
            due("slip of " + row, laid(row.substring(0, gap)).slip(), Integer.parseInt(row.substring(gap + 1)));
        }
        String hundred = "(".repeat(100);
        due("slip of a hundred (", laid(hundred).slip(), 100);
        due("slip of fifty ()", laid("(".repeat(50) + ")".repeat(50)).slip(), NONE);
        due("slip of one ) more", laid("(".repeat(49) + ")".repeat(50)).slip(), 98);
        due("slip changes nothing", laid("{a").told(0), 2);
    }

    private static void dueFits(String kind, String value, int want) {
        KindNets x = taken("A=" + kind);
        lay(x, value);
        due(value + " of " + kind, x.fits(x.name(0)), want);
    }

    /** Promise 15. */
    private static void fitting() {
        String[] kinds = {"n", "t", "s", "{}", "[an]", "*n"};
        String[] values = {"5", "T", "$k", "{}", "[a1]", "()"};
        for (int i = 0; i < kinds.length; i++) {
            for (int k = 0; k < values.length; k++) {
                dueFits(kinds[i], values[k], i == k ? NONE : 0);
            }
            dueFits(".", values[i], NONE);
            dueFits("!", values[i], 0);
            dueFits(">nn", values[i], 0);
        }
        dueFits("t", "F", NONE);
        dueFits("{an}", "{a1b(T)}", NONE);
        dueFits("{an}", "{}", 1);
        dueFits("{an}", "{b1}", 3);
        dueFits("{anbn}", "{aT}", 2);
        dueFits("{bn}", "{a{}}", 4);
        dueFits("{a{bn}ct}", "{a{}c1}", 3);
        dueFits("{a{bn}ct}", "{a{b1}}", 6);
        dueFits("{cn}", "{a[a1]b{}c2d()}", NONE);
        dueFits("[anbt]", "[bT]", NONE);
        dueFits("[anbt]", "[b1]", 2);
        dueFits("[anbt]", "[cT]", 0);
        dueFits("[]", "[cT]", 0);
        dueFits("*[an]", "([a1][bT][a$x])", 5);
        dueFits("*n", "(12T4)", 3);
        dueFits("**n", "(()(1)2)", 6);
        dueFits("*{an}", "({a1}{b1})", 8);
        dueFits("[anb*A]", "[b([a5][b()])]", NONE);
        dueFits("[anb*A]", "[b([a5][bT])]", 9);
        dueFits("{a.bn}", "{a[h{}]b1}", NONE);
        dueFits("*.", "(1T{}[a(())])", NONE);
        dueFits("*!", "()", NONE);
        dueFits("*!", "(1)", 1);
        dueFits("n", "", NO);
        dueFits("n", "12", NO);
        dueFits("n", "(", NO);
        KindNets x = taken("A=n");
        for (int i : NO_NODES) {
            due("fits " + i, x.fits(i), UNKNOWN);
        }
        lay(x, "1");
        due("fits 1", x.fits(1), UNKNOWN);
        due("fits changes nothing", x.fits(0) + x.told(0), NONE + 1);
    }

    /** Promise 16. */
    private static void sizes() {
        String[] rows = {"1 1", "T 1", "$q 1", "{} 1", "() 1", "[a1] 2", "{a1b2} 3", "(123) 4", "([a()]{b$x}) 5",
            "{a{b{c1}}} 4", "{a1 -5", "1] -5", "n -5", "$ -5"};
        for (String row : rows) {
            int gap = row.indexOf(' ');
            due("size of " + row, laid(row.substring(0, gap)).size(), Integer.parseInt(row.substring(gap + 1)));
        }
        due("size of 98 in a list", laid("(" + "7".repeat(98) + ")").size(), 99);
        due("size of nothing", laid("").size(), NO);
    }

    private static void dueCounts(String text, int... from1) {
        KindNets x = taken(text);
        for (int size = 1; size <= from1.length; size++) {
            due("count by " + size + " of " + text, x.count(x.name(0), size), from1[size - 1]);
        }
    }

    /** Promise 17. */
    private static void counting() {
        dueCounts("A=n", 10, 0, 0);
        dueCounts("A=t", 2, 0, 0);
        dueCounts("A=s", 26, 0, 0);
        dueCounts("A=.", 0, 0, 0);
        dueCounts("A=!", 0, 0, 0);
        dueCounts("A=>nn", 0, 0, 0);
        dueCounts("A={}", 1, 0, 0);
        dueCounts("A=[]", 0, 0, 0);
        dueCounts("A={an}", 0, 10, 0);
        dueCounts("A={anbsct}", 0, 0, 0, 520, 0);
        dueCounts("A={anb.}", 0, 0, 0, 0);
        dueCounts("A=[anbtc{}]", 0, 13, 0);
        dueCounts("A=*n", 1, 10, 100, 1000, 10000, 100000, 1000000, 10000000, 100000000, 1000000000, 1000000000,
            1000000000);
        dueCounts("A=*s", 1, 26, 676, 17576, 456976, 11881376, 308915776, 1000000000, 1000000000);
        dueCounts("A=*A", 1, 1, 2, 5, 14, 42, 132, 429, 1430, 4862, 16796, 58786);
        dueCounts("A=*.", 1, 0, 0);
        dueCounts("A={a*nb*t}", 0, 0, 1, 12, 124);
        dueCounts("A={aA}", 0, 0, 0, 0, 0, 0, 0, 0, 0, 0, 0, 0);
        dueCounts("A=[a{}b{aAbA}]", 0, 1, 0, 0, 0, 1, 0, 0, 0, 2, 0, 0);
        dueCounts("A={asbscsdsesfsgshs}", 0, 0, 0, 0, 0, 0, 0, 0, 1000000000, 0, 0, 0);
        dueCounts("A={a*sb*sc!}", 0, 0, 0, 0, 0, 0, 0, 0, 0, 0, 0, 0);
        KindNets x = taken("A=n;B=t");
        int[] none = {0, 13, -1, LEAST_INT, MOST_INT};
        for (int size : none) {
            due("count by " + size, x.count(0, size), OUTSIDE);
            due("count of none by " + size, x.count(2, size), UNKNOWN);
        }
        for (int i : NO_NODES) {
            due("count of " + i, x.count(i, 1), UNKNOWN);
        }
        x.count(0, 1);
        x.join(0, 1, 0);
        due("count of a made node", x.count(2, 1), 0);
        lay(x, "A=*n");
        x.take();
        due("count after another take", x.count(0, 2), 10);
    }

    private static void dueLeast(String text, int want) {
        KindNets x = taken(text);
        due("least of A in " + text, x.least(x.name(0)), want);
        if (want == NONE && x.told(3) == 0) {
            due("empty nodes in " + text, x.told(3), 1);
        }
    }

    /** Promise 18. */
    private static void leasts() {
        String[] rows = {"n 1", "t 1", "s 1", ". -6", "! -6", ">nn -6", "{} 1", "[] -6", "*! 1", "*A 1", "{an} 2",
            "{anb.} -6", "[a.b{cn}] 3", "[a{anbn}bn] 2", "{aA} -6", "[aA] -6", "[aAbn] 2", "{a[aAbn]bn} 4",
            "{a[aAb[an]]bn} 5"};
        for (String row : rows) {
            int gap = row.indexOf(' ');
            dueLeast("A=" + row.substring(0, gap), Integer.parseInt(row.substring(gap + 1)));
        }
        dueLeast("A={aBbBcBdBeB};B={anbncndnenfn}", 36);
        dueLeast("A={aBbBcBdBeBfngnhn};B={anbncndnenfn}", 39);
        dueLeast("A=[a{aBbBcBdBeBfngnhn}];B={anbncndnenfn}", 40);
        dueLeast("A=[a[a{aBbBcBdBeBfngnhn}]];B={anbncndnenfn}", NONE);
        dueLeast("A={aBbBcBdBeBfBgBhB};B={aCbCcCdCeCfCgChC};C={aDbDcDdDeDfDgDhD};D=n", NONE);
        KindNets x = taken("A=n");
        for (int i : NO_NODES) {
            due("least " + i, x.least(i), UNKNOWN);
        }
    }

    /** Promise 19. */
    private static void telling() {
        KindNets x = taken("A={anb.};C=>nn;D=A");
        lay(x, "(1)");
        due("signs", x.told(0), 3);
        due("nodes", x.told(1), 6);
        due("names", x.told(2), 3);
        due("empty nodes", x.told(3), 3);
        due("pairs", x.told(4), 5 + 6);
        int[] none = {-1, 5, LEAST_INT, MOST_INT};
        for (int what : none) {
            due("told " + what, x.told(what), OUTSIDE);
        }
        x.join(0, 3, 1);
        due("nodes with one made", x.told(1), 7);
        due("empty with one made", x.told(3), 4);
        due("pairs with one made", x.told(4), 11 + 6);
        x = taken("A=[a{aBbBcBdBeBfngnhn}];B={anbncndnenfn}");
        due("least of 40 is not empty", x.told(3), 0);
        x = taken("A=[a[a{aBbBcBdBeBfngnhn}]];B={anbncndnenfn}");
        due("least of 41 is empty", x.told(3), 1);
    }
}
