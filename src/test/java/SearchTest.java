/**
 * Promises 10 (least) to 15 (before). Two plates whose burnt sides matter go round a ring of eight
 * states under TOPS, by turns of one and of two: that makes most of what is due plain by hand.
 */
public final class SearchTest {
    private static final Due DUE = new Due("SearchTest");

    public static void main(String[] args) {
        noPlates();
        twoPlates();
        ringOfEight();
        manyWays();
        cheapIsNotShort();
        neverInOrder();
        keptOnesStay();
        worstByOrderThenSides();
        before();
        wrongNumbers();
        nothingIsTurned();
        anotherLawAnotherAnswer();
        DUE.end();
    }

    private static void noPlates() {
        TopTurned x = new TopTurned();
        DUE.is("least()", x.least(), 0);
        DUE.is("cheapest()", x.cheapest(), 0);
        DUE.is("ways()", x.ways(), 1);
        DUE.is("far(0)", x.far(0), 1);
        DUE.is("far(1)", x.far(1), 0);
        DUE.is("far(-1)", x.far(-1), 0);
        DUE.is("before(0)", x.before(0), 1);
        DUE.is("before(1)", x.before(1), 0);
        DUE.is("worst(-1)", x.worst(-1), -3);
        DUE.is("worst(0)", x.worst(0), -1);
        DUE.is("worst(-2)", x.worst(-2), -1);
    }

    private static void twoPlates() {
        TopTurned x = Due.with("p2+;p1+;");
        DUE.is("least()", x.least(), 1);
        DUE.is("ways()", x.ways(), 1);
        DUE.is("cheapest()", x.cheapest(), 1);
        DUE.is("far(0)", x.far(0), 4);
        DUE.is("far(1)", x.far(1), 4);
        DUE.is("far(2)", x.far(2), 0);
        DUE.is("far(-1)", x.far(-1), 0);
        DUE.is("worst(-1)", x.worst(-1), 1);
        DUE.is("worst(0)", x.worst(0), 0);
        DUE.is("worst(1)", x.worst(1), 1);
    }

    private static void ringOfEight() {
        TopTurned x = Due.with("p2+;p1+;b1;c12;");
        DUE.is("least()", x.least(), 3);
        DUE.is("ways()", x.ways(), 1);
        DUE.is("cheapest()", x.cheapest(), 3 + 5 + 3);
        int[] far = {1, 2, 2, 2, 1, 0};
        for (int n = 0; n < far.length; n++) {
            DUE.is("far(" + n + ")", x.far(n), far[n]);
        }
        DUE.is("worst(-1)", x.worst(-1), 4);
        DUE.is("worst(0)", x.worst(0), 11);
        DUE.is("worst(1)", x.worst(1), 10);
        x.turn(0, 2);
        DUE.is("at the other end: least()", x.least(), 4);
        DUE.is("both ways round: ways()", x.ways(), 2);
        DUE.is("cheapest()", x.cheapest(), 2 * (3 + 5));
    }

    private static void manyWays() {
        TopTurned x = Due.with("p2+;p1+;b1;l3;c09;");
        DUE.is("least()", x.least(), 3);
        DUE.is("ways()", x.ways(), 6);
        DUE.is("cheapest()", x.cheapest(), 36);
        Due.tell(x, "c00;");
        DUE.is("for nothing: cheapest()", x.cheapest(), 0);
        Due.tell(x, "c50;");
        DUE.is("by turns alone: cheapest()", x.cheapest(), 15);
    }

    private static void cheapIsNotShort() {
        TopTurned x = Due.with("p2+;p4+;p3-;b1;c01;");
        DUE.is("least()", x.least(), 4);
        DUE.is("cheapest()", x.cheapest(), 9);
        int paid = 0;
        for (int k = 0; k < 5; k++) {
            paid += x.turn(0, x.next(3));
        }
        DUE.is("in order by five", x.inOrder(), 1);
        DUE.is("paid", paid, 9);
    }

    private static void neverInOrder() {
        TopTurned x = Due.with("p2+;p1+;l1;m1;");
        DUE.is("least()", x.least(), -9);
        DUE.is("cheapest()", x.cheapest(), -9);
        DUE.is("ways()", x.ways(), 0);
        DUE.is("far(-1)", x.far(-1), 4);
        DUE.is("far(0)", x.far(0), 4);
        DUE.is("far(1)", x.far(1), 0);
        DUE.is("worst(-1)", x.worst(-1), 0);
        DUE.is("worst(0)", x.worst(0), 1);
        Due.tell(x, "l4;b1;");
        DUE.is("an even turn cannot clean one: far(-1)", x.far(-1), 6);
        DUE.is("least()", x.least(), -9);
    }

    private static void keptOnesStay() {
        TopTurned x = Due.with("p2+;p1+;p3+;l2;k2;");
        DUE.is("least()", x.least(), 1);
        Due.tell(x, "k1;");
        DUE.is("the kept one lies wrong: least()", x.least(), -9);
        DUE.is("far(0)", x.far(0), 8);
    }

    private static void worstByOrderThenSides() {
        TopTurned x = Due.with("p1+;p2-;p3+;p4+;p5+;");
        DUE.is("sides aside they are clean", x.worst(0) / 10 + x.worst(1) / 10 + x.worst(4) / 10, 0);
        TopTurned y = Due.with("p5-;b1;");
        DUE.is("worst(0)", y.worst(0), 10);
        DUE.is("worst(-1)", y.worst(-1), 1);
        // One burnt or both, one turn is enough: the first such has its lower one burnt.
        TopTurned z = Due.with("p4+;p4+;b1;l3;");
        DUE.is("two alike: worst(-1)", z.worst(-1), 1);
        DUE.is("worst(0)", z.worst(0), 0);
        DUE.is("worst(1)", z.worst(1), 11);
    }

    private static void before() {
        TopTurned x = Due.with("p2+;p1+;");
        int[] want = {1, 2, 3, 4, 4};
        for (int n = 0; n < want.length; n++) {
            DUE.is("ring: before(" + n + ")", x.before(n), want[n]);
        }
        TopTurned y = Due.with("p5-;");
        for (int n = 0; n < 5; n++) {
            DUE.is("one plate: before(" + n + ")", y.before(n), 1);
        }
        TopTurned z = Due.with("p1+;l4;");
        DUE.is("none may be: before(0)", z.before(0), 1);
        DUE.is("none may be: before(2)", z.before(2), 0);
        TopTurned five = Due.with("p1+;p2+;p3+;p4+;p5+;l3;");
        DUE.is("all turns: before(1)", five.before(1), 15);
    }

    private static void wrongNumbers() {
        TopTurned x = Due.with("p2+;p1+;");
        DUE.is("far(-2)", x.far(-2), -4);
        DUE.is("far(21)", x.far(21), -6);
        DUE.is("far(20)", x.far(20), 0);
        DUE.is("worst(2)", x.worst(2), -1);
        DUE.is("worst(-2)", x.worst(-2), -1);
        DUE.is("before(-1)", x.before(-1), -4);
        DUE.is("before(5)", x.before(5), -6);
        DUE.is("count(11)", x.count(11), 2);
        DUE.is("count(14)", x.count(14), 2);
        DUE.is("count(16)", x.count(16), 2);
    }

    private static void nothingIsTurned() {
        TopTurned x = Due.with("p3+;p1-;p2+;b1;");
        x.least();
        x.cheapest();
        x.ways();
        x.far(1);
        x.worst(0);
        x.before(4);
        DUE.holds("heap", Due.heap(x).equals("0 11 2"));
        DUE.is("paid", x.count(6), 0);
    }

    /** What was reckoned once is no answer when something else is told. */
    private static void anotherLawAnotherAnswer() {
        TopTurned x = Due.with("p1+;p3+;p2+;c11;");
        DUE.is("tops: least()", x.least(), 3);
        DUE.is("tops: cheapest()", x.cheapest(), 3 + 4 + 3);
        x.law(3);
        DUE.is("between: least()", x.least(), 1);
        DUE.is("between: cheapest()", x.cheapest(), 4);
        Due.tell(x, "b1;");
        DUE.is("burnt: least()", x.least(), 3);
        Due.tell(x, "p1+;");
        DUE.is("one more: far(0)", x.far(0), 2);
        Due.tell(x, "b0;");
        DUE.is("sides aside: far(0)", x.far(0), 2 * 16);
    }
}
