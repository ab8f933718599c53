/** Promises 23 (match) and 24 (shuffled). */
public final class MatchTest {
    private static final Due DUE = new Due("MatchTest");

    public static void main(String[] args) {
        match();
        shuffled();
        shuffledWrong();
        DUE.end();
    }

    private static void match() {
        String[] texts = {"b1;", "p5+;b1;", "p5-;b1;", "p5-;", "p5-;b1;l4;", "p2+;p1+;", "p2+;p1+;l1;m1;", "p2+;p1+;l2;k0;",
            "p2+;p1+;l2;k1;", "p2+;p1+;b1;", "p2-;p1-;b1;", "p2-;p1-;b1;l3;", "p3+;p2+;p1+;", "p3+;p1+;p2+;", "p3+;p2+;p1+;l4;",
            "p3-;p2-;p1-;b1;"};
        int[] want = {0, 0, 1, 0, 0, 1, 2, 0,
            2, 2, 1, 1, 1, 2, 2,
            1};
        for (int k = 0; k < texts.length; k++) {
            TopTurned x = Due.with(texts[k]);
            DUE.is(texts[k] + " match()", x.match(), want[k]);
            DUE.is("it costs nothing", x.count(6), 0);
        }
        TopTurned x = Due.with("p2+;p1+;");
        DUE.is("before", x.match(), 1);
        x.turn(0, 2);
        DUE.is("behind it who is to turn has lost", x.match(), 0);
    }

    /** The draws reckoned by hand: below 2, from these seeds 1, 1, 0, 0. */
    private static void shuffled() {
        TopTurned x = Due.with("p2+;p1+;");
        DUE.is("shuffled(0, 5)", x.shuffled(0, 5), 1);
        DUE.is("shuffled(1, 0)", x.shuffled(1, 0), 0);
        DUE.is("shuffled(1, 7)", x.shuffled(1, 7), 0);
        DUE.is("shuffled(1, 13)", x.shuffled(1, 13), 1);
        DUE.is("without the sign's bit: shuffled(1, 1000)", x.shuffled(1, 1000), 1);
        DUE.holds("nothing is turned", Due.heap(x).equals("0 1") && x.count(6) == 0);
        x.law(4);
        DUE.is("one may be, even: shuffled(30, 9)", x.shuffled(30, 9), 1);
        DUE.is("one may be, odd: shuffled(29, 9)", x.shuffled(29, 9), 0);
        Due.tell(x, "b1;");
        DUE.is("never: shuffled(3, 9)", x.shuffled(3, 9), -9);
        Due.tell(x, "b0;l2;k0;");
        DUE.is("none may be: shuffled(30, 9)", x.shuffled(30, 9), -9);
        DUE.is("no plates: shuffled(30, 9)", new TopTurned().shuffled(30, 9), 0);
    }

    private static void shuffledWrong() {
        TopTurned x = Due.with("p2+;p1+;");
        DUE.is("shuffled(-1, 0)", x.shuffled(-1, 0), -4);
        DUE.is("shuffled(31, 0)", x.shuffled(31, 0), -6);
        DUE.is("count(14)", x.count(14), 1);
        DUE.is("count(16)", x.count(16), 1);
    }
}
