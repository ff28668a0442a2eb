/** Section 4 and promises 14 to 19: each sentence that names a limit, at the last taken and the first refused. */
public final class ValueEdgesTest extends Checks {
    private static final String VALUE = "0123456789TF${[(";
    private static final String LETTERS = "abcdefghijklmnopqrstuvwxyz";
    private static final String FIFTY_DEEP = "(".repeat(50) + ")".repeat(50);

    public static void main(String[] args) {
        aValueGoesOnWithTheseSignsAlone();
        behindTheLastSignTheFaultIsTheirNumber();
        hundredSignsOfAValue();
        aValueIsReadAnew();
        bySignsOfTheirOwn();
        anyAndNothing();
        recordsNeedAllLetters();
        choicesNeedALetter();
        listsFitOneByOne();
        theFirstPlace();
        fitsARing();
        fitsNoValue();
        sizes();
        countsByLeaves();
        countsOfRecords();
        countsOfChoices();
        countsOfLists();
        countsAtTheMost();
        sizesThatAreCounted();
        leastTo40();
        emptyOnes();
        leastBeyondWhatIsCounted();
        tellings();
        unknownNodes();
        close("the edges of values hold");
    }

    /** Behind a beginning just these signs go on; every other one is THE FAULT, at its place. */
    private static void dueNext(String begin, String signs) {
        for (char sign = 33; sign <= 126; sign++) {
            boolean goesOn = laid(begin + sign).slip() != begin.length();
            due(begin + " goes on with " + sign, goesOn ? 1 : 0, signs.indexOf(sign) >= 0 ? 1 : 0);
        }
    }

    /** "A VALUE is written: .."; "THE FAULT of the PAD as a VALUE: likewise". */
    private static void aValueGoesOnWithTheseSignsAlone() {
        dueNext("", VALUE);
        dueNext("$", LETTERS);
        String[] whole = {"0", "9", "T", "F", "$a", "$z", "{}", "[a1]", "[h()]", "()", "{a1h{}}", "(1(T)$a)"};
        for (String value : whole) {
            due("slip of " + value, laid(value).slip(), NONE);
            dueNext(value, "");
            dueNext("{b" + value, "}cdefgh");
            dueNext("[b" + value, "]");
            dueNext("(" + value, VALUE + ")");
        }
        dueNext("{", "}abcdefgh");
        dueNext("[", "abcdefgh");
        dueNext("(", VALUE + ")");
        for (char letter = 'a'; letter <= 'h'; letter++) {
            dueNext("{" + letter, VALUE);
            dueNext("{" + letter + "1", "}" + "abcdefgh".substring(letter - 'a' + 1));
            dueNext("[" + letter, VALUE);
            dueNext("[" + letter + "1", "]");
        }
        dueNext("{a{h1}", "}bcdefgh");
        dueNext("({h1}{", "}abcdefgh");
        dueNext("{c$", LETTERS);
    }

    private static void behindTheLastSignTheFaultIsTheirNumber() {
        String value = "{a(12[b{}]$z)b[h[a()]]cT}";
        for (int cut = 0; cut < value.length(); cut++) {
            due("slip of " + value.substring(0, cut), laid(value.substring(0, cut)).slip(), cut);
        }
        due("slip of " + value, laid(value).slip(), NONE);
        due("slip of an empty pad", new KindNets().slip(), 0);
        due("slip of a text", laid("A=n").slip(), 0);
        due("fault of a value", laid("{a1}").fault(), 0);
    }

    private static void hundredSignsOfAValue() {
        due("fifty deep", laid(FIFTY_DEEP).slip(), NONE);
        due("one ( too many", laid("(".repeat(51) + ")".repeat(49)).slip(), 100);
        due("one ) too many", laid("(".repeat(49) + ")".repeat(51)).slip(), 98);
        due("a hundred (", laid("(".repeat(100)).slip(), 100);
        due("a hundred digits", laid("7".repeat(100)).slip(), 1);
        due("choices within one another", laid("[h".repeat(33) + "1" + "]".repeat(33)).slip(), NONE);
        due("records within one another", laid("{h".repeat(33) + "1" + "}".repeat(33)).slip(), NONE);
        due("a $ at the end of a full pad", laid("(" + "$a".repeat(49) + "$").slip(), 100);
    }

    /** What was read before, whole or not, leaves nothing behind. */
    private static void aValueIsReadAnew() {
        KindNets x = taken("A=n;B=*n");
        String[] values = {"((", "1", "(1)", "(1", "$a", "$", "{a1", "1", "{a{b[", "(12)", "{}", "{", "[a", "2", "(T)", "(", "3"};
        for (String value : values) {
            lay(x, value);
            KindNets anew = taken("A=n;B=*n");
            lay(anew, value);
            due("slip of " + value, x.slip(), anew.slip());
            due("size of " + value, x.size(), anew.size());
            due("fits 0 of " + value, x.fits(0), anew.fits(0));
            due("fits 1 of " + value, x.fits(1), anew.fits(1));
        }
        lay(x, "((");
        due("not whole", x.slip(), 2);
        lay(x, "4");
        due("whole behind it", x.slip(), NONE);
        lay(x, "(");
        due("a sign that went", x.slip(), 1);
    }

    private static void dueFits(String kind, String value, int want) {
        KindNets x = taken("A=" + kind);
        lay(x, value);
        due(value + " of " + kind, x.fits(x.name(0)), want);
        due("signs of " + value, x.told(0), value.length());
    }

    /** "NUMBER, TRUTH, LETTER of those". */
    private static void bySignsOfTheirOwn() {
        for (char digit = '0'; digit <= '9'; digit++) {
            dueFits("n", String.valueOf(digit), NONE);
            dueFits("t", String.valueOf(digit), 0);
            dueFits("s", String.valueOf(digit), 0);
        }
        for (char letter : LETTERS.toCharArray()) {
            dueFits("s", "$" + letter, NONE);
            dueFits("n", "$" + letter, 0);
            dueFits("t", "$" + letter, 0);
        }
        String[] kinds = {"n", "t", "t", "s", "{}", "[an]", "*n"};
        String[] values = {"5", "T", "F", "$k", "{}", "[a1]", "()"};
        for (int i = 0; i < kinds.length; i++) {
            for (int k = 0; k < values.length; k++) {
                dueFits(kinds[i], values[k], kinds[i].equals(kinds[k]) ? NONE : 0);
            }
        }
    }

    /** "ANY: all"; "of a FUNCTION, of NOTHING none is". */
    private static void anyAndNothing() {
        String[] values = {"5", "F", "$k", "{}", "{a1h{}}", "[c()]", "()", "(1T{})", FIFTY_DEEP};
        for (String value : values) {
            dueFits(".", value, NONE);
            dueFits("!", value, 0);
            dueFits(">nn", value, 0);
            dueFits(">!.", value, 0);
        }
        dueFits("*!", "()", NONE);
        dueFits("*!", "(1)", 1);
        dueFits("*>nn", "()", NONE);
        dueFits("*>nn", "({})", 1);
        dueFits("{a!}", "{a1}", 2);
        dueFits("{a!}", "{}", 1);
        dueFits("{a.}", "{}", 1);
    }

    /** "that has all letters of that, with VALUES that ARE of its PARTS (others whatever)"; "its }". */
    private static void recordsNeedAllLetters() {
        dueFits("{}", "{}", NONE);
        dueFits("{}", "{a1b2c3d4e5f6g7h8}", NONE);
        dueFits("{an}", "{}", 1);
        dueFits("{an}", "{a1}", NONE);
        dueFits("{an}", "{aT}", 2);
        dueFits("{an}", "{b1}", 3);
        dueFits("{an}", "{a1b{}c[h(T)]}", NONE);
        dueFits("{hn}", "{a1b2c3d4e5f6g7h8}", NONE);
        dueFits("{hn}", "{a1b2c3d4e5f6g7}", 15);
        dueFits("{anbncndnenfngnhn}", "{a1b2c3d4e5f6g7h8}", NONE);
        dueFits("{anbncndnenfngnhn}", "{a1b2c3d4e5f6g7}", 15);
        dueFits("{anbncndnenfngnhn}", "{b2c3d4e5f6g7h8}", 15);
        dueFits("{anbncndnenfngnhn}", "{a1b2c3d4e5f6g7hT}", 16);
        dueFits("{a{bn}}", "{a{}}", 3);
        dueFits("{a{bn}cn}", "{a{b1}}", 6);
    }

    /** "a CHOICE: a letter of that, likewise". */
    private static void choicesNeedALetter() {
        dueFits("[]", "[a1]", 0);
        dueFits("[an]", "[a1]", NONE);
        dueFits("[an]", "[b1]", 0);
        dueFits("[an]", "[aT]", 2);
        dueFits("[hn]", "[h1]", NONE);
        dueFits("[hn]", "[g1]", 0);
        dueFits("[anbt]", "[bT]", NONE);
        dueFits("[anbt]", "[b1]", 2);
        dueFits("*[an]", "([a1][bT])", 5);
        dueFits("*[an]", "([a1][b{c$x}]T)", 5);
        dueFits("{a[]}", "{a[h1]}", 2);
        dueFits("[a.]", "[a[hT]]", NONE);
        dueFits("[a[an]]", "[a[b1]]", 2);
    }

    /** "a LIST: all in it ARE of its PART". */
    private static void listsFitOneByOne() {
        dueFits("*n", "()", NONE);
        dueFits("*n", "(" + "7".repeat(98) + ")", NONE);
        dueFits("*n", "(" + "7".repeat(97) + "T)", 98);
        dueFits("*n", "(T" + "7".repeat(97) + ")", 1);
        dueFits("**n", "(()(1)(12T)T)", 9);
        dueFits("*s", "($a$b1)", 5);
        dueFits("*A", FIFTY_DEEP, NONE);
        dueFits("*A", "(".repeat(49) + "1" + ")".repeat(49), 49);
    }

    /** "the first sign of the first VALUE in it, as written, that is not of the NODE it must be of". */
    private static void theFirstPlace() {
        dueFits("{anbn}", "{aTbT}", 2);
        dueFits("{anbn}", "{a1bT}", 4);
        dueFits("{anbn}", "{aT}", 2);
        dueFits("{anbn}", "{bT}", 2);
        dueFits("{anb*n}", "{b(1T)}", 4);
        dueFits("{a{bncn}dn}", "{a{b1}dT}", 5);
        dueFits("{a{bncn}dn}", "{a{cT}}", 4);
        dueFits("{anc[bn]}", "{b()c[a{}]}", 5);
        dueFits("*{an}", "({a1b()}{aTb1}T)", 10);
        dueFits("*{an}", "({}T)", 2);
        dueFits("{a>nnbn}", "{a{}bT}", 2);
        dueFits("{a[anbs]}", "{a[b$x]b{}}", NONE);
    }

    private static void fitsARing() {
        KindNets x = taken("A=[anb{cAdB}];B=*A");
        lay(x, "[b{c[a1]d([a2][b{c[a3]d()}])}]");
        due("a value of a ring", x.fits(0), NONE);
        lay(x, "[b{c[a1]d([a2][b{c[a3]dT}])}]");
        due("a misfit in a ring", x.fits(0), 23);
        lay(x, "[b{c[a1]d([a2][b{d()}])}]");
        due("a letter lacks in a ring", x.fits(0), 20);
        lay(x, "[b".repeat(20) + "1" + "]".repeat(20));
        due("not of the ring", x.fits(0), 2);
        lay(x, "([a1])");
        due("a list of it", x.fits(x.name(1)), NONE);
        due("a list of it is not of it", x.fits(0), 0);
    }

    /** "UNKNOWN; NO: the PAD is no VALUE". */
    private static void fitsNoValue() {
        String[] none = {"", "n", "12", "(", "{a1", "[a1", "$", "()1", "{b1a1}"};
        for (String value : none) {
            KindNets x = taken("A=n;B=.");
            lay(x, value);
            due("fits of " + value, x.fits(0), NO);
            due("fits any of " + value, x.fits(1), NO);
            due("fits of no node of " + value, x.fits(2), UNKNOWN);
            due("size of " + value, x.size(), NO);
            due("signs of " + value, x.told(0), value.length());
        }
        due("fits without nodes", laid("1").fits(0), UNKNOWN);
        due("size without nodes", laid("1").size(), 1);
    }

    /** "SIZE of a VALUE: 1, and SIZES of all within." */
    private static void sizes() {
        String[] rows = {"0 1", "T 1", "$a 1", "{} 1", "() 1", "[a1] 2", "[a[b[c()]]] 4", "{a1} 2",
            "{a1b2c3d4e5f6g7h8} 9", "(1) 2", "(()()) 3", "($a$b) 3", "{a(1T)b{c$x}} 6"};
        for (String row : rows) {
            int gap = row.indexOf(' ');
            due("size of " + row, laid(row.substring(0, gap)).size(), Integer.parseInt(row.substring(gap + 1)));
        }
        due("size of fifty lists", laid(FIFTY_DEEP).size(), 50);
        due("size of the most", laid("(" + "7".repeat(98) + ")").size(), 99);
        due("size of none", new KindNets().size(), NO);
    }

    private static void dueCounts(String text, int... from1) {
        KindNets x = taken(text);
        for (int size = 1; size <= 12; size++) {
            int want = size <= from1.length ? from1[size - 1] : 0;
            due("count by " + size + " of " + text, x.count(x.name(0), size), want);
        }
    }

    /** "ANY has none, LETTERS are 26, NUMBERS 10". */
    private static void countsByLeaves() {
        dueCounts("A=n", 10);
        dueCounts("A=t", 2);
        dueCounts("A=s", 26);
        dueCounts("A=.");
        dueCounts("A=!");
        dueCounts("A=>nn");
        dueCounts("A=>!.");
    }

    /** "RECORDS have just the letters of their NODES". */
    private static void countsOfRecords() {
        dueCounts("A={}", 1);
        dueCounts("A={an}", 0, 10);
        dueCounts("A={hs}", 0, 26);
        dueCounts("A={anbt}", 0, 0, 20);
        dueCounts("A={anb.}");
        dueCounts("A={anb!}");
        dueCounts("A={a{}b{}c{}}", 0, 0, 0, 1);
        dueCounts("A={a{b{c{d{e{f{g{h{a{b{cn}}}}}}}}}}}", 0, 0, 0, 0, 0, 0, 0, 0, 0, 0, 0, 10);
        dueCounts("A={a{b{c{d{e{f{g{h{a{b{c{dn}}}}}}}}}}}}");
        dueCounts("A={atbtctdtetftgtht}", 0, 0, 0, 0, 0, 0, 0, 0, 256);
        dueCounts("A={aA}");
        dueCounts("A={a*tb*t}", 0, 0, 1, 4, 12, 32, 80, 192, 448, 1024, 2304, 5120);
    }

    private static void countsOfChoices() {
        dueCounts("A=[]");
        dueCounts("A=[an]", 0, 10);
        dueCounts("A=[anbtcsd{}e.f!]", 0, 39);
        dueCounts("A=[aA]");
        dueCounts("A=[anbA]", 0, 10, 10, 10, 10, 10, 10, 10, 10, 10, 10, 10);
        dueCounts("A=[atbnc{d[et]}]", 0, 12, 0, 2);
    }

    private static void countsOfLists() {
        dueCounts("A=*!", 1);
        dueCounts("A=*.", 1);
        dueCounts("A=*t", 1, 2, 4, 8, 16, 32, 64, 128, 256, 512, 1024, 2048);
        dueCounts("A=*{}", 1, 1, 1, 1, 1, 1, 1, 1, 1, 1, 1, 1);
        dueCounts("A=*[at]", 1, 0, 2, 0, 4, 0, 8, 0, 16, 0, 32);
        dueCounts("A=**!", 1, 1, 1, 1, 1, 1, 1, 1, 1, 1, 1, 1);
        dueCounts("A=*A", 1, 1, 2, 5, 14, 42, 132, 429, 1430, 4862, 16796, 58786);
    }

    /** "(1000000000 at most: more is told so)". */
    private static void countsAtTheMost() {
        int most = 1000000000;
        dueCounts("A=*n", 1, 10, 100, 1000, 10000, 100000, 1000000, 10000000, 100000000, most, most, most);
        String seven = "A={anbncndnenfngnhB};B=";
        dueCounts(seven + "[ascsesfngnh{}]", 0, 0, 0, 0, 0, 0, 0, 0, 0, 990000000);
        dueCounts(seven + "[ascsesfngnht]", 0, 0, 0, 0, 0, 0, 0, 0, 0, most);
        dueCounts(seven + "[ascsdtesfngnh{}]", 0, 0, 0, 0, 0, 0, 0, 0, 0, most);
        dueCounts("A={asbscsdsesfsgshs}", 0, 0, 0, 0, 0, 0, 0, 0, most);
        dueCounts("A={a*sb!}");
        dueCounts("A={a!b*s}");
        dueCounts("A=[aBbBcBdBeBfBgBhB];B={anbncndnenfngnhn}", 0, 0, 0, 0, 0, 0, 0, 0, 0, 800000000);
        dueCounts("A=[aBbB];B={asbscsdsesfsgshs}", 0, 0, 0, 0, 0, 0, 0, 0, 0, most);
        dueCounts("A={aBbC};B={asbscsdsesfsgshs};C=t", 0, 0, 0, 0, 0, 0, 0, 0, 0, 0, most);
        dueCounts("A={aCbB};B={asbscsdsesfsgshs};C=*t", 0, 0, 0, 0, 0, 0, 0, 0, 0, 0, most, most);
    }

    /** "COUNT of a NODE by a SIZE (1 to 12)"; "UNKNOWN; OUTSIDE". */
    private static void sizesThatAreCounted() {
        KindNets x = taken("A=*t;B=n");
        due("count by 1", x.count(0, 1), 1);
        due("count by 12", x.count(0, 12), 2048);
        int[] outside = {0, 13, -1, 40, NONE, LEAST_INT, MOST_INT};
        for (int size : outside) {
            due("count by " + size, x.count(0, size), OUTSIDE);
            due("count of none by " + size, x.count(3, size), UNKNOWN);
            due("count of -1 by " + size, x.count(-1, size), UNKNOWN);
        }
        due("count of the last", x.count(2, 1), 10);
        due("count behind the last", x.count(3, 1), UNKNOWN);
        due("join", x.join(0, 2, 0), 3);
        due("count of what is made", x.count(3, 1), 0);
        due("count behind what is made", x.count(4, 1), UNKNOWN);
        x = taken("A=[an];B=[btc*n]");
        due("count ahead of the join", x.count(0, 2) + x.count(2, 2), 13);
        due("least ahead of the join", x.least(0) + x.least(2), 4);
        due("all letters of either", x.join(0, 2, 0), 6);
        due("count of it", x.count(6, 2), 13);
        due("count of it by 3", x.count(6, 3), 10);
        due("least of it", x.least(6), 2);
        due("letters of both", x.join(0, 2, 1), 7);
        due("count of none", x.count(7, 2), 0);
        due("least of none", x.least(7), NONE);
        due("count of what is older", x.count(2, 2), 3);
    }

    private static String fields(int many) {
        StringBuilder text = new StringBuilder("{");
        for (int letter = 0; letter < many; letter++) {
            text.append((char) ('a' + letter)).append('n');
        }
        return text.append('}').toString();
    }

    /** "LEAST: the least SIZE with any (1 to 40)". */
    private static void leastTo40() {
        String[] rows = {"n 1", "t 1", "s 1", "{} 1", "*n 1", "*! 1", "*A 1", "{an} 2", "[an] 2", "[a{anbn}bn] 2",
            "[a.b!c>nnd[an]] 3", "{a*Ab*A} 3", "[aAbn] 2", "[a{aAbA}b{cn}] 3", "{a[aAbn]} 3"};
        for (String row : rows) {
            int gap = row.indexOf(' ');
            KindNets x = taken("A=" + row.substring(0, gap));
            due("least of " + row, x.least(x.name(0)), Integer.parseInt(row.substring(gap + 1)));
        }
        for (int more = 0; more <= 8; more++) {
            KindNets x = taken("A={aBbBcBdBeC};C=" + fields(more) + ";B=" + fields(7));
            int least = 1 + 4 * 8 + 1 + more;
            due("least of " + least, x.least(0), least <= 40 ? least : NONE);
            due("empty by a least of " + least, x.told(3), least <= 40 ? 0 : 1);
        }
        KindNets x = taken("A=[a[a{aBbBcBdBeB}]];B=" + fields(6) + ";C=[aA];D=*C");
        due("least 38", x.least(0), 38);
        due("least 39", x.least(x.name(2)), 39);
        due("least of a list of it", x.least(x.name(3)), 1);
        x = taken("A=[aB];B=[aC];C={aDbDcDdDeE};D=" + fields(7) + ";E=" + fields(4));
        due("least 38 within two", x.least(x.name(2)), 38);
        due("least 39 within one", x.least(x.name(1)), 39);
        due("least 40", x.least(0), 40);
        due("none is empty", x.told(3), 0);
        x = taken("A=[aB];B=[aC];C={aDbDcDdDeE};D=" + fields(7) + ";E=" + fields(5));
        due("least 40 within one", x.least(x.name(1)), 40);
        due("least 41", x.least(0), NONE);
        due("one is empty", x.told(3), 1);
        x = taken("A=[aBbF];B=[aC];C={aDbDcDdDeE};D=" + fields(7) + ";E=" + fields(5) + ";F=*A");
        due("a case that is less", x.least(0), 2);
    }

    /** "none: it is EMPTY for all that is looked at". */
    private static void emptyOnes() {
        String[] empty = {".", "!", "[]", ">nn", "{aA}", "[aA]", "{a.}", "{anb!}", "[a.b!]", "{a[]}", "{a*Ab>nn}"};
        for (String kind : empty) {
            KindNets x = taken("A=" + kind);
            due("least of " + kind, x.least(0), NONE);
            for (int size = 1; size <= 12; size++) {
                due("count of " + kind, x.count(0, size), 0);
            }
        }
        KindNets x = taken("A={aB};B={aC};C={aA};D=*A");
        due("three of four are empty", x.told(3), 3);
        due("a list of them is not", x.least(3), 1);
        x = taken("A={aB};B=[aAbn]");
        due("one way out is enough", x.told(3), 0);
        due("least by it", x.least(0), 3);
        due("none of no nodes", new KindNets().told(3), 0);
    }

    private static void leastBeyondWhatIsCounted() {
        KindNets x = taken("A={aBbC};B=" + fields(5) + ";C=" + fields(4));
        due("least 12", x.least(0), 12);
        due("count by 12", x.count(0, 12), 1000000000);
        x = taken("A={aBbC};B=" + fields(5) + ";C=" + fields(5));
        due("least 13", x.least(0), 13);
        due("none is empty", x.told(3), 0);
        for (int size = 1; size <= 12; size++) {
            due("count by " + size, x.count(0, size), 0);
        }
    }

    /** Promise 19. */
    private static void tellings() {
        int[] outside = {-1, 5, 8, NONE, LEAST_INT, MOST_INT};
        KindNets x = new KindNets();
        for (int what : outside) {
            due("told " + what, x.told(what), OUTSIDE);
        }
        for (int what = 0; what <= 4; what++) {
            due("new told " + what, x.told(what), 0);
        }
        x = taken("A=n");
        int[] one = {0, 1, 1, 0, 0};
        for (int what = 0; what <= 4; what++) {
            due("told " + what + " of one", x.told(what), one[what]);
        }
        x = taken("A=n;B=n;C=.;D=!;E=C");
        lay(x, "(");
        int[] some = {1, 4, 5, 2, 2 + 3 + 3 - 1};
        for (int what = 0; what <= 4; what++) {
            due("told " + what, x.told(what), some[what]);
        }
        x = taken("A=n;B=n");
        due("two alike are two pairs", x.told(4), 2);
        x = taken("A=n;B=t");
        due("no pairs", x.told(4), 0);
        for (int made = 2; made < 60; made++) {
            due("made", x.join(0, 1, 0), made);
        }
        due("60 nodes", x.told(1), 60);
        due("two names", x.told(2), 2);
        due("58 are empty", x.told(3), 58);
        due("pairs of 60", x.told(4), 58 * 57 + 2 * 58);
    }

    /** "UNKNOWN" of each call here, at the last NODE and behind it. */
    private static void unknownNodes() {
        KindNets x = taken("A={an}");
        lay(x, "{a1}");
        int[] unknown = {2, 3, 40, 60, 100, -1, NONE, LEAST_INT, MOST_INT};
        for (int i : unknown) {
            due("fits " + i, x.fits(i), UNKNOWN);
            due("count " + i, x.count(i, 1), UNKNOWN);
            due("least " + i, x.least(i), UNKNOWN);
        }
        due("fits of the last", x.fits(1), 0);
        due("count of the last", x.count(1, 1), 10);
        due("least of the last", x.least(1), 1);
    }
}
