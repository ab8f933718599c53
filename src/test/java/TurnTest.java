/** Promises 5 (law), 6 (may), 7 (turn), 8 (inOrder), 9 (gaps). */
public final class TurnTest {
    private static final Due DUE = new Due("TurnTest");

    public static void main(String[] args) {
        laws();
        mayByLaw();
        keptPlate();
        mayOfNoTurn();
        turns();
        turnsRefused();
        inOrder();
        gapsOfSizes();
        gapsOfSides();
        DUE.end();
    }

    private static void laws() {
        TopTurned x = new TopTurned();
        DUE.is("law(3)", x.law(3), 0);
        DUE.is("law(4)", x.law(4), 3);
        DUE.is("law(5)", x.law(5), -2);
        DUE.is("law(-1)", x.law(-1), -2);
        DUE.is("count(2)", x.count(2), 4);
        DUE.is("count(12)", x.count(12), 2);
        DUE.is("law by letters", Due.tell(x, "l1;"), 1);
        DUE.is("law(0)", x.law(0), 1);
    }

    /** Written out: row i, places j = 1 .. 4, of the turns (i, j) of four plates. */
    private static void mayByLaw() {
        String[] want = {
            "1111 -000 --00 ---0",
            "1100 -000 --00 ---0",
            "1110 -000 --00 ---0",
            "1111 -111 --11 ---1",
            "0101 -010 --01 ---0"};
        TopTurned x = Due.with("p1+;p2+;p3+;p4+;m2;k3;");
        for (int law = 0; law < 5; law++) {
            x.law(law);
            for (int i = 0; i < 4; i++) {
                for (int j = i + 1; j <= 4; j++) {
                    int due = want[law].charAt(5 * i + j - 1) - '0';
                    DUE.is("law " + law + ": may(" + i + ", " + j + ")", x.may(i, j), due);
                }
            }
        }
    }

    private static void keptPlate() {
        TopTurned x = Due.with("p1+;p2+;p3+;l2;k0;");
        DUE.is("the top one kept: may(0, 1)", x.may(0, 1), 0);
        DUE.is("count(9)", x.count(9), 0);
        Due.tell(x, "k9;");
        DUE.is("none kept: may(0, 3)", x.may(0, 3), 1);
        x.turn(0, 3);
        Due.tell(x, "k0;");
        DUE.is("it lies lowest now: may(0, 2)", x.may(0, 2), 1);
        DUE.is("may(0, 3)", x.may(0, 3), 0);
        Due.tell(x, "k1;");
        DUE.is("the middle one: may(0, 1)", x.may(0, 1), 1);
        DUE.is("may(0, 2)", x.may(0, 2), 0);
        x.law(3);
        DUE.is("other laws keep none: may(0, 2)", x.may(0, 2), 1);
    }

    private static void mayOfNoTurn() {
        TopTurned x = Due.with("p1+;p2+;l3;");
        int[][] none = {{0, 0}, {1, 1}, {2, 2}, {1, 0}, {2, 1}, {-1, 1}, {0, 3}, {0, -1}, {2, 3}, {3, 4},
            {Integer.MIN_VALUE, Integer.MAX_VALUE}};
        for (int[] turn : none) {
            DUE.is("may(" + turn[0] + ", " + turn[1] + ")", x.may(turn[0], turn[1]), -1);
        }
        DUE.is("count(11)", x.count(11), none.length);
    }

    private static void turns() {
        TopTurned x = Due.with("p1+;p2-;p3+;p4+;p5-;l3;c34;");
        DUE.is("turn(0, 1)", x.turn(0, 1), 7);
        DUE.holds("(0, 1)", Due.heap(x).equals("10 11 2 3 14"));
        DUE.is("turn(0, 5)", x.turn(0, 5), 23);
        DUE.holds("(0, 5)", Due.heap(x).equals("4 13 12 1 0"));
        DUE.is("turn(1, 4): paid by j", x.turn(1, 4), 19);
        DUE.holds("(1, 4)", Due.heap(x).equals("4 11 2 3 0"));
        DUE.is("turn(4, 5)", x.turn(4, 5), 23);
        DUE.holds("(4, 5)", Due.heap(x).equals("4 11 2 3 10"));
        DUE.is("turn(1, 3)", x.turn(1, 3), 15);
        DUE.holds("(1, 3)", Due.heap(x).equals("4 12 1 3 10"));
        DUE.is("paid", x.count(6), 7 + 23 + 19 + 23 + 15);
    }

    private static void turnsRefused() {
        TopTurned x = Due.with("p1+;p2-;p3+;");
        DUE.is("turn(1, 2)", x.turn(1, 2), -3);
        DUE.is("turn(1, 1)", x.turn(1, 1), -1);
        DUE.is("turn(0, 4)", x.turn(0, 4), -1);
        DUE.is("turn(-1, 2)", x.turn(-1, 2), -1);
        DUE.is("count(6)", x.count(6), 0);
        DUE.is("count(11)", x.count(11), 3);
        DUE.is("count(13)", x.count(13), 1);
        DUE.holds("nothing turned", Due.heap(x).equals("0 11 2"));
    }

    private static void inOrder() {
        String[] texts = {"b1;", "p5-;", "p5-;b1;", "p5+;b1;", "p1+;p2+;", "p2+;p1+;", "p2+;p2-;p9-;", "p2+;p2-;b1;",
            "p1+;p3+;p2+;", "p1+;p2+;p4+;p8+;p8+;b1;", "p9+;p1+;p2+;p3+;p4+;"};
        int[] want = {1, 1, 0, 1, 1, 0, 1, 0, 0, 1, 0};
        for (int k = 0; k < texts.length; k++) {
            DUE.is(texts[k] + " inOrder()", Due.with(texts[k]).inOrder(), want[k]);
        }
    }

    private static void gapsOfSizes() {
        String[] texts = {"b0;", "p5+;", "p1+;p2+;", "p2+;p1+;", "p4+;p4+;", "p1+;p9+;", "p9+;p1+;p5+;", "p3+;p1+;p2+;",
            "p5+;p4+;p3+;p2+;p1+;", "p1+;p3+;p5+;p2+;p4+;", "p1+;p3+;p2+;p3+;p3+;", "p2+;p2+;p1+;"};
        int[] want = {0, 0, 0, 1, 0, 0, 2, 2, 1, 5, 1, 1};
        for (int k = 0; k < texts.length; k++) {
            DUE.is(texts[k] + " gaps()", Due.with(texts[k]).gaps(), want[k]);
        }
    }

    private static void gapsOfSides() {
        String[] texts = {"p5-;", "p5-;b1;", "p1-;p2+;b1;", "p1+;p2-;b1;", "p1-;p2-;b1;", "p1-;p2+;", "p2-;p1+;b1;",
            "p1+;p9-;p5+;b1;", "p1-;p2+;p3-;p4+;p5-;b1;", "b1;"};
        int[] want = {0, 1, 1, 2, 1, 0, 2, 3, 5, 0};
        for (int k = 0; k < texts.length; k++) {
            DUE.is(texts[k] + " gaps()", Due.with(texts[k]).gaps(), want[k]);
        }
    }
}
