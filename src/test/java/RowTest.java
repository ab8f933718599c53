/** Promises 18 (row), 19 (path), 20 (judge), 21 (blind), 22 (fewest). */
public final class RowTest {
    private static final Due DUE = new Due("RowTest");

    public static void main(String[] args) {
        row();
        path();
        pathToNoOrder();
        judge();
        blind();
        blindByLaw();
        blindToldWrong();
        fewest();
        fewestBySides();
        DUE.end();
    }

    private static void row() {
        TopTurned x = new TopTurned();
        DUE.is("row(-1)", x.row(-1), -4);
        DUE.is("row(100)", x.row(100), -6);
        DUE.is("row(0)", x.row(0), 1);
        DUE.is("row(99)", x.row(99), 2);
        for (int k = 3; k <= 8; k++) {
            DUE.is("row, number " + k, x.row(k), k);
        }
        DUE.is("row, number 9", x.row(1), -6);
        DUE.is("row(-1) of a full one", x.row(-1), -4);
        DUE.is("count(7)", x.count(7), 8);
        DUE.is("count(14)", x.count(14), 2);
        DUE.is("count(16)", x.count(16), 2);
    }

    private static int pathTo(TopTurned x, int... codes) {
        Due.rows(x, codes);
        return x.path();
    }

    private static void path() {
        TopTurned x = Due.with("p2+;p1+;");
        DUE.is("to where it is", pathTo(x, 0, 1), 0);
        DUE.is("the row has none then", x.count(7), 0);
        DUE.is("one over", pathTo(x, 10, 1), 1);
        DUE.is("both", pathTo(x, 11, 10), 1);
        DUE.is("the other order", pathTo(x, 1, 0), 3);
        DUE.is("both burnt", pathTo(x, 10, 11), 4);
        x.law(3);
        DUE.is("between: the lower one over", pathTo(x, 0, 11), 1);
        DUE.is("between: both burnt", pathTo(x, 10, 11), 2);
        x.law(4);
        DUE.is("even: never", pathTo(x, 1, 0), -9);
        DUE.is("the row has none then", x.count(7), 0);
        DUE.is("it costs nothing", x.count(6), 0);
        DUE.is("no plates", new TopTurned().path(), 0);
    }

    private static void pathToNoOrder() {
        int[][] rows = {{}, {0}, {0, 0}, {0, 10}, {0, 2}, {0, 21}, {20, 1}, {0, 1, 1}, {0, 99}, {12, 1}};
        for (int[] codes : rows) {
            TopTurned x = Due.with("p2+;p1+;");
            DUE.is(java.util.Arrays.toString(codes) + " path()", pathTo(x, codes), -3);
            DUE.is("it stays", x.count(7), codes.length);
            DUE.is("count(13)", x.count(13), 1);
        }
        DUE.is("no plates, one told", pathTo(new TopTurned(), 0), -3);
    }

    private static int judged(TopTurned x, int... turns) {
        Due.rows(x, turns);
        int answer = x.judge();
        DUE.is("the row has none behind judge()", x.count(7), 0);
        return answer;
    }

    private static void judge() {
        TopTurned x = Due.with("p3+;p1+;p2+;");
        DUE.is("in order then", judged(x, 3, 2), -9);
        DUE.is("not in order then", judged(x, 3), 1);
        DUE.is("in order and out again", judged(x, 3, 2, 3), 3);
        DUE.is("none told", judged(x), 0);
        DUE.is("the second may not be", judged(x, 3, 12, 2), 1);
        DUE.is("the first is none", judged(x, 4), 0);
        DUE.is("the last is none", judged(x, 3, 2, 0), 2);
        DUE.is("i is j", judged(x, 3, 22), 1);
        DUE.is("none such", judged(x, 99), 0);
        x.law(3);
        DUE.is("between it may be", judged(x, 3, 12, 2), -9);
        x.law(2);
        Due.tell(x, "k0;");
        DUE.is("kept on the top", judged(x, 1), 0);
        Due.tell(x, "k1;");
        DUE.is("kept below the top", judged(x, 1, 2), 1);
        DUE.holds("nothing is turned", Due.heap(x).equals("0 1 2") && x.count(6) == 0);
        DUE.is("none refused", x.count(11) + x.count(13), 0);
        DUE.is("no plates", judged(new TopTurned()), -9);
    }

    private static int blinded(TopTurned x, int... turns) {
        Due.rows(x, turns);
        return x.blind();
    }

    private static void blind() {
        TopTurned x = Due.with("p1+;p2+;");
        DUE.is("not all are in order", blinded(x), 0);
        DUE.is("nor so", blinded(x, 2), 0);
        Due.tell(x, "s10;");
        DUE.is("only one is allowed", blinded(x, 2), 1);
        DUE.is("the row has none then", x.count(7), 0);
        DUE.is("that one is not in order yet", blinded(x), 0);
        DUE.is("at the end it is not", blinded(x, 2, 2), 0);
        DUE.is("on the way it need not be", blinded(x, 2, 2, 2, 1), 1);
        Due.tell(x, "s01;");
        DUE.is("none is allowed", blinded(x), 1);
        DUE.is("none is allowed", blinded(x, 1), 1);
        TopTurned alike = Due.with("p4+;p4+;b1;");
        DUE.is("alike ones", blinded(alike), 1);
        DUE.is("alike ones, one burnt", blinded(alike, 1), 0);
        DUE.is("alike ones, both round", blinded(alike, 2, 2), 1);
        DUE.is("no plates", blinded(new TopTurned()), 1);
    }

    private static void blindByLaw() {
        TopTurned x = Due.with("p1+;p2+;s10;l1;m1;");
        DUE.is("the law stops it", blinded(x, 2), 0);
        DUE.is("the row has none then", x.count(7), 0);
        x.law(4);
        DUE.is("even", blinded(x, 2), 1);
        Due.tell(x, "l2;k1;");
        DUE.is("the kept one is the upper one there", blinded(x, 1), 0);
        DUE.is("count(13)", x.count(13), 0);
    }

    private static void blindToldWrong() {
        int[][] rows = {{0}, {11}, {3}, {21}, {2, 22}, {2, 99}, {20}};
        for (int[] turns : rows) {
            TopTurned x = Due.with("p1+;p2+;");
            DUE.is(java.util.Arrays.toString(turns) + " blind()", blinded(x, turns), -3);
            DUE.is("it stays", x.count(7), turns.length);
            DUE.is("count(13)", x.count(13), 1);
        }
        DUE.is("no turn of no plates", blinded(new TopTurned(), 1), -3);
        DUE.is("a turn that the law forbids is told well", blinded(Due.with("p1+;p2+;"), 12), 0);
    }

    private static void fewest() {
        TopTurned x = Due.with("p1+;p2+;");
        DUE.is("none: fewest(-1)", x.fewest(-1), -9);
        DUE.is("none: fewest(0)", x.fewest(0), -9);
        Due.tell(x, "s10;");
        DUE.is("fewest(-1)", x.fewest(-1), 1);
        DUE.is("fewest(0)", x.fewest(0), 2);
        DUE.is("fewest(1)", x.fewest(1), -9);
        DUE.is("fewest(greatest)", x.fewest(Integer.MAX_VALUE), -9);
        DUE.is("fewest(-2)", x.fewest(-2), -4);
        DUE.is("count(14)", x.count(14), 1);
        x.row(5);
        x.fewest(-1);
        DUE.is("the row stays", x.count(7), 1);
        x.law(1);
        Due.tell(x, "m1;");
        DUE.is("the law stops it: fewest(-1)", x.fewest(-1), -9);
        TopTurned three = Due.with("p1+;p2+;p3+;s20;s01;l3;");
        DUE.is("3 1 2: fewest(-1)", three.fewest(-1), 2);
        DUE.is("3 1 2: fewest(0)", three.fewest(0), 2);
        DUE.is("3 1 2: fewest(1)", three.fewest(1), 13);
        DUE.is("no plates: fewest(-1)", new TopTurned().fewest(-1), 0);
        DUE.is("no plates: fewest(0)", new TopTurned().fewest(0), -9);
    }

    private static void fewestBySides() {
        TopTurned x = Due.with("p1+;p2+;s10;b1;");
        int[] ring = {3, 1, 2, 1, -9};
        for (int i = -1; i < 4; i++) {
            DUE.is("fewest(" + i + ")", x.fewest(i), ring[i + 1]);
        }
        x.turn(0, 1);
        DUE.is("sides as they are now: fewest(-1)", x.fewest(-1), 2);
        DUE.is("fewest(0)", x.fewest(0), 1);
        DUE.is("fewest(1)", x.fewest(1), 2);
        DUE.is("four would do, but three at most", Due.with("p1-;p2-;s01;b1;").fewest(-1), -9);
    }
}
