import java.util.Random;

/**
 * What is said in mind against what comes when the turns are made on another object: the waiters of
 * promise 16 and PATH, for five plates in all orders, where the lists of orders and turns have their ends.
 */
public final class MadeTest {
    private static final Due DUE = new Due("MadeTest");
    private static final String[] LAWS = {"l0;", "l1;m1;", "l1;m4;", "l2;k0;", "l2;k4;", "l3;", "l4;"};

    public static void main(String[] args) {
        int[][] orders = orders();
        Random random = new Random(5);
        for (int[] order : orders) {
            noneMayBe(order);
            String law = LAWS[random.nextInt(LAWS.length)];
            waiters("p1+;p2+;p3+;p4+;p5+;b1;c01;" + law, burntBy(order, random));
            waiters("p2+;p3+;p1+;p3+;p2+;b0;c37;" + LAWS[random.nextInt(LAWS.length)], order);
            path("p1+;p2+;p3+;p4+;p5+;b1;" + law, burntBy(order, random), new int[] {0, 1, 2, 3, 4});
        }
        DUE.end();
    }

    private static int[][] orders() {
        int[][] all = new int[120][];
        int many = 0;
        for (int number = 0; number < 100000; number++) {
            int[] order = {number / 10000, number / 1000 % 10, number / 100 % 10, number / 10 % 10, number % 10};
            int seen = 0;
            for (int plate : order) {
                seen |= 1 << plate;
            }
            if (seen == 31) {
                all[many++] = order;
            }
        }
        return all;
    }

    private static int[] burntBy(int[] order, Random random) {
        int[] codes = order.clone();
        for (int place = 0; place < codes.length; place++) {
            codes[place] += 10 * random.nextInt(2);
        }
        return codes;
    }

    /** The top one is kept: "none MAY be: -9 by 0 .. 3", and who must turn has lost. */
    private static void noneMayBe(int[] order) {
        TopTurned x = Due.with("p1+;p2+;p3+;p4+;p5-;b1;");
        Due.arrange(x, order);
        Due.tell(x, "l2;k" + order[0] + ";");
        String name = "the top one kept of " + Due.heap(x) + ": ";
        boolean sorted = Due.heap(x).equals("0 1 2 3 4");
        DUE.is(name + "count(9)", x.count(9), 0);
        for (int kind = 0; kind < 4; kind++) {
            DUE.is(name + "next(" + kind + ")", x.next(kind), -9);
            DUE.is(name + "rule(" + kind + ")", x.rule(kind), sorted ? 0 : -9);
        }
        DUE.is(name + "least()", x.least(), sorted ? 0 : -9);
        DUE.is(name + "shuffled(30, 5)", x.shuffled(30, 5), sorted ? 0 : -9);
        DUE.is(name + "match()", x.match(), 0);
        DUE.is(name + "before(1)", x.before(1), 0);
        DUE.is(name + "ways()", x.ways(), sorted ? 1 : 0);
    }

    private static void waiters(String kitchen, int[] codes) {
        TopTurned x = Due.with(kitchen);
        Due.arrange(x, codes);
        TopTurned y = Due.with(kitchen);
        Due.arrange(y, codes);
        int least = x.least();
        int cheapest = x.cheapest();
        int fewestGaps = 99;
        int[] want = {-9, -9, -9, -9, large(x)};
        for (int i = 0; i < 5; i++) {
            for (int j = i + 1; j <= 5; j++) {
                if (y.may(i, j) == 0) {
                    continue;
                }
                int cost = y.turn(i, j);
                boolean[] takes = {want[0] == -9, y.gaps() < fewestGaps, want[2] == -9 && y.least() < least && least > 0,
                    want[3] == -9 && cheapest >= 0 && cost + y.cheapest() == cheapest};
                fewestGaps = Math.min(fewestGaps, y.gaps());
                for (int kind = 0; kind < 4; kind++) {
                    want[kind] = takes[kind] ? 10 * i + j : want[kind];
                }
                y.turn(i, j);
            }
        }
        for (int kind = 0; kind < 5; kind++) {
            int due = x.inOrder() == 1 ? -9 : want[kind];
            DUE.is(kitchen + " heap " + Due.heap(x) + ": next(" + kind + ")", x.next(kind), due);
        }
    }

    private static int large(TopTurned x) {
        for (int k = 4; k > 0; k--) {
            int q = k;
            for (int place = k - 1; place >= 0; place--) {
                q = x.place(place, 1) > x.place(q, 1) ? place : q;
            }
            if (q < k) {
                return q == 0 ? k + 1 : q + 1;
            }
        }
        return -9;
    }

    /** There is but one state in order, so the way to it is LEAST; and the way back is as long. */
    private static void path(String kitchen, int[] codes, int[] sorted) {
        TopTurned x = Due.with(kitchen);
        Due.arrange(x, codes);
        String name = kitchen + " heap " + Due.heap(x) + ": ";
        int least = x.least();
        Due.rows(x, sorted);
        DUE.is(name + "path()", x.path(), least);
        Due.rows(x, codes);
        DUE.is(name + "path() to where it is", x.path(), 0);
        TopTurned y = Due.with(kitchen);
        Due.rows(y, codes);
        DUE.is(name + "path() back", y.path(), least);
    }
}
