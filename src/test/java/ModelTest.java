/** Many runs of calls, the same ones on the class and on the model, with every answer compared. */
public final class ModelTest {
    private static final int RUNS = 1500;
    private static final int CALLS = 512;

    private final KindNets nets = new KindNets();
    private final KindModel model = new KindModel();
    private final Dice dice;
    private final StringBuilder heard = new StringBuilder();
    private int calls;
    private int wrong;

    private ModelTest(long seed) {
        dice = new Dice(seed);
    }

    public static void main(String[] args) {
        int wrong = 0;
        for (int run = 0; run < RUNS && wrong == 0; run++) {
            ModelTest test = new ModelTest(run);
            test.goThrough();
            wrong += test.wrong;
        }
        System.out.println(wrong == 0 ? "the model answers the same" : wrong + " answers differ");
        if (wrong != 0) {
            System.exit(1);
        }
    }

    private void goThrough() {
        while (calls < CALLS && wrong == 0) {
            int chance = dice.below(10);
            if (chance < 2 || model.nodes() == 0) {
                tryText();
            } else if (chance < 4) {
                tryValue();
            } else if (chance < 6) {
                tryJoins();
            } else {
                askAround();
            }
        }
    }

    private void tryText() {
        wipe();
        lay(new TextMaker(dice).text());
        same("fault", nets.fault(), model.fault());
        same("take", nets.take(), model.take());
        same("nodes", nets.told(1), model.told(1));
        same("names", nets.told(2), model.told(2));
        int n = dice.below(11) - 1;
        same("name " + n, nets.name(n), model.name(n));
    }

    private void tryValue() {
        wipe();
        int i = dice.below(model.nodes());
        lay(new ValueMaker(dice, model).value(i));
        same("slip", nets.slip(), model.slip());
        same("size", nets.size(), model.size());
        same("fits " + i, nets.fits(i), model.fits(i));
        int k = dice.below(model.nodes() + 1);
        same("fits " + k, nets.fits(k), model.fits(k));
    }

    private void tryJoins() {
        int many = 1 + dice.below(3);
        for (int asked = 0; asked < many; asked++) {
            int i = anyNode();
            int k = anyNode();
            int what = dice.below(20) == 0 ? dice.below(5) - 1 : dice.below(2);
            int before = model.nodes();
            same("join " + i + " " + k + " " + what, nets.join(i, k, what), model.join(i, k, what));
            same("nodes", nets.told(1), model.told(1));
            for (int made = before; made < model.nodes(); made++) {
                for (int part = -1; part <= 8; part++) {
                    same("node " + made + " " + part, nets.node(made, part), model.node(made, part));
                }
            }
        }
    }

    private void askAround() {
        int i = anyNode();
        int k = anyNode();
        same("may " + i + " " + k, nets.may(i, k), model.may(i, k));
        same("alike " + i + " " + k, nets.alike(i, k), model.alike(i, k));
        same("end " + i + " " + k, nets.end(i, k), model.end(i, k));
        int steps = model.way(i, k, -1);
        for (int j = -2; j <= Math.min(steps, 12) + 1; j++) {
            same("way " + i + " " + k + " " + j, nets.way(i, k, j), model.way(i, k, j));
        }
        same("pieces " + i, nets.pieces(i), model.pieces(i));
        int what = dice.below(11) - 1;
        same("node " + i + " " + what, nets.node(i, what), model.node(i, what));
        int size = dice.below(15) - 1;
        same("count " + i + " " + size, nets.count(i, size), model.count(i, size));
        same("least " + i, nets.least(i), model.least(i));
        int told = dice.below(7) - 1;
        same("told " + told, nets.told(told), model.told(told));
    }

    private int anyNode() {
        return dice.below(30) == 0 ? dice.below(5) * 20 - 1 : dice.below(model.nodes());
    }

    private void wipe() {
        same("wipe", nets.wipe(), model.wipe());
    }

    private void lay(String signs) {
        for (int at = 0; at < signs.length(); at++) {
            int sign = signs.charAt(at);
            same("say " + (char) sign, nets.say(sign), model.say(sign));
        }
    }

    private void same(String call, int got, int want) {
        calls++;
        heard.append(call).append(" = ").append(got).append('\n');
        if (got != want) {
            wrong++;
            System.out.println(heard);
            System.out.println(call + " answered " + got + ", the model " + want);
        }
    }
}
