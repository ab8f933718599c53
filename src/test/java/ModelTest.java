import java.util.Random;

/** Runs by fixed seeds, each call asked of the class and of the plain model of the document. */
public final class ModelTest {
    private static final int RUNS = 400;
    private static final int RUNS_OF_FIVE = 25;
    private static final int[] WILD = {Integer.MIN_VALUE, Integer.MAX_VALUE, -1000, 1000, 100, 99, 64, 21, -2};

    private final Random random;
    private final TopTurned x = new TopTurned();
    private final Model model = new Model();
    private final int mostPlates;
    private final StringBuilder log = new StringBuilder();
    private int wrong;

    private ModelTest(long seed, int mostPlates) {
        random = new Random(seed);
        this.mostPlates = mostPlates;
    }

    public static void main(String[] args) {
        int wrong = 0;
        for (int run = 0; run < RUNS; run++) {
            wrong += new ModelTest(run, 1 + run % 4).go(160);
        }
        for (int run = 0; run < RUNS_OF_FIVE; run++) {
            wrong += new ModelTest(1000 + run, 5).go(60);
        }
        System.exit(wrong == 0 ? 0 : 1);
    }

    private int go(int calls) {
        if (random.nextInt(8) > 0) {
            tell(plates());
        }
        for (int k = 0; k < calls && wrong == 0; k++) {
            step();
        }
        for (int what = 0; what <= 17 && wrong == 0; what++) {
            same("count(" + what + ")", x.count(what), model.count(what));
        }
        return wrong;
    }

    private void same(String call, int got, int want) {
        log.append(call).append(" -> ").append(got).append('\n');
        if (got != want) {
            wrong++;
            System.out.println(log + "the model answers " + want);
        }
    }

    private int below(int bound) {
        return random.nextInt(40) == 0 ? WILD[random.nextInt(WILD.length)] : random.nextInt(bound + 1) - 1;
    }

    private String plates() {
        StringBuilder text = new StringBuilder();
        int many = random.nextInt(6) == 0 ? random.nextInt(mostPlates + 1) : mostPlates;
        int sizes = 1 + random.nextInt(9);
        for (int k = 0; k < many; k++) {
            text.append('p').append(1 + random.nextInt(sizes)).append(random.nextInt(3) == 0 ? "-;" : "+;");
        }
        return text.toString();
    }

    private String statement() {
        int n = Math.max(1, model.count(0));
        switch (random.nextInt(8)) {
            case 0:
                return model.count(0) < mostPlates ? "p" + random.nextInt(10) + (random.nextBoolean() ? "+;" : "-;") : "m3;";
            case 1:
                return "l" + random.nextInt(random.nextInt(9) == 0 ? 10 : 5) + ";";
            case 2:
                return "m" + random.nextInt(7) + ";";
            case 3:
                return "k" + (random.nextBoolean() ? random.nextInt(n) : random.nextInt(10)) + ";";
            case 4:
                return "b" + random.nextInt(random.nextInt(9) == 0 ? 10 : 2) + ";";
            case 5:
                return "c" + random.nextInt(10) + random.nextInt(10) + ";";
            default:
                return "s" + random.nextInt(n) + random.nextInt(random.nextInt(9) == 0 ? 10 : n) + ";";
        }
    }

    private void tell(String text) {
        for (int k = 0; k < text.length(); k++) {
            int c = text.charAt(k);
            same("letter(" + c + ")", x.letter(c), model.letter(c));
        }
        same("kitchen()", x.kitchen(), model.kitchen());
    }

    private void tellSomething() {
        StringBuilder text = new StringBuilder();
        int many = random.nextInt(4);
        for (int k = 0; k < many; k++) {
            text.append(statement());
        }
        if (random.nextInt(5) == 0 && text.length() > 0) {
            int at = random.nextInt(text.length());
            if (random.nextBoolean()) {
                text.deleteCharAt(at);
            } else {
                text.setCharAt(at, "plmkbcs019+-;x\n\u00ff".charAt(random.nextInt(16)));
            }
        }
        tell(text.toString());
    }

    private void tellOrder() {
        int n = model.count(0);
        int[] codes = new int[n];
        for (int k = 0; k < n; k++) {
            int at = random.nextInt(k + 1);
            codes[k] = codes[at];
            codes[at] = k + (random.nextInt(3) == 0 ? 10 : 0);
        }
        for (int code : codes) {
            same("row(" + code + ")", x.row(code), model.row(code));
        }
        same("path()", x.path(), model.path());
    }

    private void tellTurns() {
        int n = model.count(0);
        int many = random.nextInt(5);
        for (int k = 0; k < many; k++) {
            int i = model.count(2) > 2 ? random.nextInt(n + 1) : 0;
            int v = 10 * i + Math.min(9, i + random.nextInt(n + 1));
            same("row(" + v + ")", x.row(v), model.row(v));
        }
    }

    private void step() {
        int n = model.count(0);
        switch (random.nextInt(30)) {
            case 0 -> tellSomething();
            case 1 -> tellOrder();
            case 2 -> tellTurns();
            case 3 -> {
                int a = below(n + 1);
                int b = below(5);
                same("place(" + a + ", " + b + ")", x.place(a, b), model.place(a, b));
            }
            case 4 -> {
                int a = below(6);
                same("law(" + a + ")", x.law(a), model.law(a));
            }
            case 5 -> {
                int a = below(n + 2);
                int b = below(n + 3);
                same("may(" + a + ", " + b + ")", x.may(a, b), model.may(a, b));
            }
            case 6, 7, 8 -> {
                int a = random.nextInt(3) == 0 ? below(n + 2) : 0;
                int b = below(n + 2);
                same("turn(" + a + ", " + b + ")", x.turn(a, b), model.turn(a, b));
            }
            case 9 -> same("inOrder()", x.inOrder(), model.inOrder());
            case 10 -> same("gaps()", x.gaps(), model.gaps());
            case 11 -> same("least()", x.least(), model.least());
            case 12 -> same("cheapest()", x.cheapest(), model.cheapest());
            case 13 -> same("ways()", x.ways(), model.ways());
            default -> stepMore();
        }
    }

    private void stepMore() {
        int n = model.count(0);
        switch (random.nextInt(18)) {
            case 0 -> {
                int a = below(9);
                same("far(" + a + ")", x.far(a), model.far(a));
            }
            case 1 -> {
                int a = below(n + 1);
                same("worst(" + a + ")", x.worst(a), model.worst(a));
            }
            case 2 -> {
                int a = below(6);
                same("before(" + a + ")", x.before(a), model.before(a));
            }
            case 3, 4 -> {
                int a = below(6);
                same("next(" + a + ")", x.next(a), model.next(a));
            }
            case 5 -> {
                int a = below(6);
                same("rule(" + a + ")", x.rule(a), model.rule(a));
            }
            case 6 -> {
                int a = below(100);
                same("row(" + a + ")", x.row(a), model.row(a));
            }
            case 7 -> same("path()", x.path(), model.path());
            case 8 -> same("judge()", x.judge(), model.judge());
            case 9 -> same("blind()", x.blind(), model.blind());
            case 10 -> {
                int a = below(5);
                same("fewest(" + a + ")", x.fewest(a), model.fewest(a));
            }
            case 11 -> same("match()", x.match(), model.match());
            case 12 -> {
                int a = below(32);
                int z = random.nextInt();
                same("shuffled(" + a + ", " + z + ")", x.shuffled(a, z), model.shuffled(a, z));
            }
            case 13 -> {
                int a = below(8);
                int b = below(4);
                same("sights(" + a + ", " + b + ")", x.sights(a, b), model.sights(a, b));
            }
            case 14 -> same("image()", x.image(), model.image());
            case 15 -> same("on()", x.on(), model.on());
            case 16 -> {
                int a = below(19);
                same("count(" + a + ")", x.count(a), model.count(a));
            }
            default -> {
                int c = below(257);
                same("letter(" + c + ")", x.letter(c), model.letter(c));
            }
        }
    }
}
