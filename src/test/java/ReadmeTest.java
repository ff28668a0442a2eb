/** The calls of README.md, with the answers that stand behind them there. */
public final class ReadmeTest extends Checks {
    public static void main(String[] args) {
        KindNets x = laid("A=[anb*A];B=[anb*Bct]");
        due("fault", x.fault(), NONE);
        due("take", x.take(), 7);
        due("signs", x.told(0), 0);
        due("name", x.name(1), 3);
        due("node", x.node(3, 1), 5);
        due("sign of it", x.node(5, -1), '*');
        due("may", x.may(0, 3), 1);
        due("may back", x.may(3, 0), 0);
        due("way", x.way(3, 0, -1), 0);
        due("end", x.end(3, 0), 300);
        due("pieces", x.pieces(3), 4);
        due("join", x.join(0, 3, 0), 3);
        due("join of others", x.join(1, 6, 0), 7);
        due("sign of it", x.node(7, -1), '.');
        lay(x, "[b([a5][cT])]");
        due("slip", x.slip(), NONE);
        due("size", x.size(), 6);
        due("fits", x.fits(3), NONE);
        due("fits not", x.fits(0), 7);
        due("count", x.count(0, 4), 11);
        due("least", x.least(0), 2);
        close("the page's calls answer as it says");
    }
}
