/** The edges of "In mind, as things stand": promises 10 to 24, but for FAR and WORST, which FarTest has. */
public final class MindEdgesTest {
    private static final Due DUE = new Due("MindEdgesTest");
    private static final String FIVE = "p1+;p2+;p3+;p4+;p5+;";
    /** The one that is the most turns away, ten, of five whose burnt sides matter. */
    private static final String FARTHEST = "p3+;p2+;p1+;p4-;p5-;b1;";

    public static void main(String[] args) {
        least();
        cheapest();
        ways();
        before();
        waitersInOrder();
        waitersWithoutATurn();
        first();
        gap();
        shorter();
        cheap();
        large();
        rule();
        path();
        pathOfAlikeOnes();
        judge();
        judgeEight();
        numbersThatTellTurns();
        blind();
        blindBySides();
        blindEight();
        fewest();
        fewestIsTheFirst();
        blindOfFive();
        match();
        shuffledByOne();
        shuffledOnAndOn();
        image();
        DUE.end();
    }

    /** "LEAST: the fewest TURNS that MAY be by which THE HEAP is IN ORDER; -9." */
    private static void least() {
        DUE.is("no plates: least()", new TopTurned().least(), 0);
        DUE.is("in order: least()", Due.with(FIVE).least(), 0);
        DUE.is("in order, none may be: least()", Due.with("p1+;p2+;l2;k0;").least(), 0);
        DUE.is("one turn: least()", Due.with("p2+;p1+;").least(), 1);
        DUE.is("the farthest: least()", Due.with(FARTHEST).least(), 10);
        DUE.is("none may be: least()", Due.with("p2+;p1+;l2;k0;").least(), -9);
        DUE.is("some may be: least()", Due.with("p2+;p1+;l1;m1;").least(), -9);
        DUE.is("one plate that can not be turned: least()", Due.with("p1-;b1;l4;").least(), -9);
        DUE.is("one plate that can: least()", Due.with("p1-;b1;").least(), 1);
    }

    /** "CHEAPEST: the least COST of such; -9." */
    private static void cheapest() {
        DUE.is("no plates: cheapest()", Due.with("c99;").cheapest(), 0);
        DUE.is("in order: cheapest()", Due.with(FIVE + "c99;").cheapest(), 0);
        DUE.is("for nothing: cheapest()", Due.with(FARTHEST + "c00;").cheapest(), 0);
        DUE.is("by turns: cheapest()", Due.with(FARTHEST + "c10;").cheapest(), 10);
        DUE.is("by turns, dear: cheapest()", Due.with(FARTHEST + "c90;").cheapest(), 90);
        String dear = "p2+;p1+;p3-;p4-;p5-;b1;";
        DUE.is("the dearest there is: cheapest()", Due.with(dear + "c99;").cheapest(), 351);
        DUE.is("by plates alone: cheapest()", Due.with(dear + "c09;").cheapest(), 243);
        DUE.is("between, the dearest there is: cheapest()", Due.with(dear + "c99;l3;").cheapest(), 198);
        DUE.is("the cheapest row is not the shortest: cheapest()", Due.with("p2+;p4+;p3-;b1;c01;").cheapest(), 9);
        DUE.is("never, for nothing: cheapest()", Due.with("p2+;p1+;l1;m1;c00;").cheapest(), -9);
        DUE.is("never, none may be: cheapest()", Due.with("p2+;p1+;l2;k0;c99;").cheapest(), -9);
        DUE.is("paid by j, not by how many are turned: cheapest()", Due.with("p1+;p3+;p2+;l3;c01;").cheapest(), 3);
    }

    /** "WAYS: how many rows of LEAST TURNS there are." and "WAYS (0 none)". */
    private static void ways() {
        DUE.is("no plates, the row of no turns: ways()", new TopTurned().ways(), 1);
        DUE.is("in order, the row of no turns: ways()", Due.with(FIVE + "l3;").ways(), 1);
        DUE.is("never: ways()", Due.with("p2+;p1+;l1;m1;").ways(), 0);
        DUE.is("none may be: ways()", Due.with("p2+;p1+;l2;k0;").ways(), 0);
        DUE.is("alike ones lie in either order: ways()", Due.with("p1-;p1-;l3;b1;").ways(), 1);
        // The outer two one by one, or all and then the middle one: each in either order.
        DUE.is("ways to unlike ends: ways()", Due.with("p1-;p1+;p1-;b1;l3;").ways(), 4);
        DUE.is("the most: ways()", Due.with("p2+;p4+;p3+;p5+;p1+;l3;b1;").ways(), 1492);
    }

    /** "BEFORE: STATES from which just n TURNS (0 .. 4), one behind the other, can make THE HEAP: how many unlike ones." */
    private static void before() {
        int[][] tops = {{1, 0, 0, 0, 0}, {1, 1, 1, 1, 1}, {1, 2, 3, 4, 4}, {1, 3, 7, 15, 25}, {1, 4, 13, 40, 103}, {1, 5, 21, 85, 301}};
        int[][] between = {{1, 0, 0, 0, 0}, {1, 1, 1, 1, 1}, {1, 3, 4, 4, 4}, {1, 6, 17, 31, 42}, {1, 10, 51, 180, 351},
            {1, 15, 121, 715, 2268}};
        int[][] even = {{1, 0, 0, 0, 0}, {1, 0, 0, 0, 0}, {1, 1, 1, 1, 1}, {1, 2, 3, 3, 3}, {1, 4, 9, 15, 20}, {1, 6, 22, 62, 111}};
        for (int plates = 0; plates <= 5; plates++) {
            for (int n = 0; n <= 4; n++) {
                String some = FIVE.substring(0, 4 * plates);
                DUE.is(some + "l0; before(" + n + ")", Due.with(some + "l0;").before(n), tops[plates][n]);
                DUE.is(some + "l3;b1; before(" + n + ")", Due.with(some + "l3;b1;").before(n), between[plates][n]);
                DUE.is(some + "l4; before(" + n + ")", Due.with(some + "l4;").before(n), even[plates][n]);
            }
        }
        TopTurned kept = Due.with("p1+;p2+;k0;l2;");
        DUE.is("none may have been: before(0)", kept.before(0), 1);
        DUE.is("none may have been: before(1)", kept.before(1), 0);
        TopTurned low = Due.with("p1+;p2+;k1;l2;");
        DUE.is("one may have been: before(1)", low.before(1), 1);
        DUE.is("and back again: before(4)", low.before(4), 1);
    }

    /** "IN ORDER: -9 by all". */
    private static void waitersInOrder() {
        String[] texts = {"b1;", "p1+;", "p1-;", "p1+;p2-;l3;", "p1+;p2+;b1;c00;", "p4-;p4+;p4-;"};
        for (String text : texts) {
            for (int kind = 0; kind < 5; kind++) {
                TopTurned x = Due.with(text);
                DUE.is(text + " next(" + kind + ")", x.next(kind), -9);
                DUE.is(text + " rule(" + kind + ")", x.rule(kind), 0);
            }
        }
    }

    /** "none MAY be: -9 by 0 .. 3", and not by 4, "(whether it MAY be or not ..)". */
    private static void waitersWithoutATurn() {
        String[] texts = {"p2+;p1+;l2;k0;", "p2+;p1+;l2;k0;b1;c00;"};
        for (String text : texts) {
            for (int kind = 0; kind < 4; kind++) {
                TopTurned x = Due.with(text);
                DUE.is(text + " next(" + kind + ")", x.next(kind), -9);
                DUE.is(text + " rule(" + kind + ")", x.rule(kind), -9);
            }
            DUE.is(text + " next(4)", Due.with(text).next(4), 2);
        }
        for (int kind = 0; kind < 5; kind++) {
            DUE.is("one burnt that can not be turned: next(" + kind + ")", Due.with("p1-;b1;l4;").next(kind), -9);
        }
    }

    /** "0 FIRST under WAITER: the first that MAY be." */
    private static void first() {
        DUE.is("tops: next(0)", Due.with("p3+;p2+;p1+;").next(0), 1);
        DUE.is("m1: next(0)", Due.with("p3+;p2+;p1+;l1;m1;").next(0), 1);
        DUE.is("the second plate kept: next(0)", Due.with("p3+;p2+;p1+;l2;k1;").next(0), 1);
        DUE.is("even: next(0)", Due.with("p3+;p2+;p1+;l4;").next(0), 2);
    }

    /** "1 GAP under FIRST: of those that MAY be the one with fewest GAPS behind it, of several the first." */
    private static void gap() {
        DUE.is("the last is the only best: next(1)", Due.with("p3+;p2+;p1+;").next(1), 3);
        DUE.is("all alike: next(1)", Due.with("p2+;p1+;l1;m1;").next(1), 1);
        DUE.is("it may not be better: next(1)", Due.with("p3+;p2+;p1+;l1;m2;").next(1), 1);
        // 1 3 2: all leave two gaps but (1, 3), and it comes when it may be.
        DUE.is("of those that may be: next(1)", Due.with("p1+;p3+;p2+;l3;").next(1), 13);
        DUE.is("more gaps than now: next(1)", Due.with("p3-;p2-;p1-;b1;l1;m1;").next(1), 1);
    }

    /** "2 SHORT under FIRST: the first behind which LEAST is less; -9 none." */
    private static void shorter() {
        DUE.is("of several the first: next(2)", Due.with("p2+;p1+;b1;l3;").next(2), 1);
        DUE.is("one by one: rule(2)", Due.with(FARTHEST).rule(2), 10);
        DUE.is("it never can be: next(2)", Due.with("p2+;p1+;l1;m1;").next(2), -9);
    }

    /** "3 CHEAP under SHORT: the first behind which COST and CHEAPEST are CHEAPEST now; -9." */
    private static void cheap() {
        DUE.is("for nothing, the first that may be: next(3)", Due.with("p2+;p1+;c00;").next(3), 1);
        DUE.is("by turns, as SHORT: next(3)", Due.with("p2+;p1+;c90;").next(3), 2);
        DUE.is("it never can be: next(3)", Due.with("p2+;p1+;l1;m1;c99;").next(3), -9);
        DUE.is("it never can be, for nothing: next(3)", Due.with("p2+;p1+;l1;m1;c00;").next(3), -9);
    }

    /** "4 LARGE under WAITER (..; sides aside)": k the lowest, q the greatest and of several the lowest. */
    private static void large() {
        String[] texts = {"p2+;p1+;", "p1+;p3+;p2+;", "p3+;p1+;p2+;", "p3+;p3+;p1+;", "p3+;p1+;p3+;p2+;", "p2+;p1+;p9+;p9+;p9+;",
            "p5+;p4+;p3+;p2+;p1+;", "p1+;p2+;p3+;p5+;p4+;", "p2+;p3+;p1+;p3+;", "p1-;p2+;p3-;b1;", "p1-;b1;", "p2-;p1-;p3-;b1;"};
        int[] want = {2, 2, 3, 2, 3, 2, 5, 4, 2, -9, -9, 2};
        for (int k = 0; k < texts.length; k++) {
            DUE.is(texts[k] + " next(4)", Due.with(texts[k]).next(4), want[k]);
            DUE.is(texts[k] + "l2;k0; next(4)", Due.with(texts[k] + "l2;k0;").next(4), want[k]);
        }
    }

    /** "RULE: how many TURNS a WAITER makes one after the other till it is IN ORDER (40 at most); -9." The longest there are. */
    private static void rule() {
        DUE.is("FIRST, once: rule(0)", Due.with("p1-;b1;").rule(0), 1);
        DUE.is("FIRST, for ever: rule(0)", Due.with("p2+;p1+;").rule(0), -9);
        DUE.is("GAP, eight: rule(1)", Due.with("p4-;p5+;p2-;p3+;p1-;b1;").rule(1), 8);
        DUE.is("GAP, for ever: rule(1)", Due.with("p2+;p1+;l1;m1;").rule(1), -9);
        DUE.is("SHORT, ten: rule(2)", Due.with(FARTHEST).rule(2), 10);
        DUE.is("SHORT, never: rule(2)", Due.with("p2+;p1+;l1;m1;").rule(2), -9);
        DUE.is("CHEAP, twelve: rule(3)", Due.with("p2+;p1+;p3-;p4-;p5-;b1;c01;").rule(3), 12);
        DUE.is("CHEAP, for nothing and for ever: rule(3)", Due.with("p2+;p1+;c00;").rule(3), -9);
        DUE.is("LARGE, seven: rule(4)", Due.with("p1+;p5+;p3+;p4+;p2+;").rule(4), 7);
        DUE.is("LARGE, for ever: rule(4)", Due.with("p3+;p3+;p1+;").rule(4), -9);
        DUE.is("LARGE, sorted but burnt: rule(4)", Due.with("p2+;p1+;b1;").rule(4), -9);
        DUE.is("LARGE, that may not be: rule(4)", Due.with("p2+;p1+;l2;k0;").rule(4), 1);
    }

    private static int pathTo(TopTurned x, int... codes) {
        Due.rows(x, codes);
        int answer = x.path();
        DUE.is("the row has none then", x.count(7), 0);
        DUE.is("none refused", x.count(13), 0);
        return answer;
    }

    /** "PATH: to a told ORDER (..): the fewest TURNS; -9." */
    private static void path() {
        DUE.is("no plates", pathTo(new TopTurned()), 0);
        DUE.is("one, as it lies", pathTo(Due.with("p1+;"), 0), 0);
        DUE.is("one, the other side", pathTo(Due.with("p1+;"), 10), 1);
        DUE.is("one, none may be", pathTo(Due.with("p1+;l4;"), 10), -9);
        DUE.is("one, none need be", pathTo(Due.with("p1-;l4;"), 10), 0);
        DUE.is("five, as they lie", pathTo(Due.with(FIVE), 0, 1, 2, 3, 4), 0);
        DUE.is("five, all over", pathTo(Due.with(FIVE), 14, 13, 12, 11, 10), 1);
        DUE.is("five, each over where it lies", pathTo(Due.with(FIVE), 10, 11, 12, 13, 14), 10);
        DUE.is("between, each over where it lies", pathTo(Due.with(FIVE + "l3;"), 10, 11, 12, 13, 14), 5);
        DUE.is("m2: the third over", pathTo(Due.with("p1+;p2+;p3+;l1;m2;"), 0, 1, 12), -9);
        DUE.is("m2: each of two over", pathTo(Due.with("p1+;p2+;p3+;l1;m2;"), 10, 11, 2), 4);
    }

    /** An ORDER is of PLATES, not of SIZES, and has their sides whether these matter or not. */
    private static void pathOfAlikeOnes() {
        for (String burnt : new String[] {"b0;", "b1;"}) {
            DUE.is("alike ones, the other order", pathTo(Due.with("p4+;p4+;" + burnt), 1, 0), 3);
            DUE.is("alike ones, the other sides", pathTo(Due.with("p4+;p4+;" + burnt), 10, 11), 4);
        }
        TopTurned x = Due.with("p4+;p4+;");
        x.turn(0, 2);
        DUE.is("from where it lies now", pathTo(x, 0, 1), 1);
        DUE.same("nothing is turned", Due.heap(x), "11 10");
    }

    private static int judged(TopTurned x, int... turns) {
        Due.rows(x, turns);
        int answer = x.judge();
        DUE.is("the row has none then", x.count(7), 0);
        return answer;
    }

    /** "JUDGED as TURNS one behind the other: the first that MAY not be; how many, if it is not IN ORDER then; -9." */
    private static void judge() {
        DUE.is("no plates, none told", judged(new TopTurned()), -9);
        DUE.is("no plates, one told", judged(new TopTurned(), 1), 0);
        DUE.is("in order, none told", judged(Due.with(FIVE)), -9);
        DUE.is("not in order, none told", judged(Due.with("p2+;p1+;")), 0);
        int[] none = {0, 10, 11, 20, 22, 3, 13, 23, 21, 9, 90, 99};
        for (int v : none) {
            DUE.is(v + " is no turn of two", judged(Due.with("p2+;p1+;l3;"), v), 0);
            DUE.is(v + " behind the one that is needed", judged(Due.with("p2+;p1+;l3;"), 2, v), 1);
        }
        DUE.is("12 is a turn of two, not by tops", judged(Due.with("p2+;p1+;"), 12), 0);
        DUE.is("12 is a turn of two, between", judged(Due.with("p2+;p1+;l3;"), 12), 1);
        DUE.is("the first that may not be, not the last", judged(Due.with("p2+;p1+;l4;"), 2, 1, 2, 1), 1);
        DUE.is("the kept one comes to the top", judged(Due.with("p3+;p2+;p1+;l2;k2;"), 2, 2, 3), 2);
        TopTurned x = Due.with("p2+;p1+;c99;");
        DUE.is("in order then", judged(x, 2), -9);
        DUE.same("nothing is turned", Due.heap(x) + " " + x.count(6), "0 1 0");
    }

    private static void judgeEight() {
        DUE.is("eight, not in order then", judged(Due.with("p2+;p1+;"), 2, 2, 2, 2, 2, 2, 2, 2), 8);
        DUE.is("eight, in order then", judged(Due.with("p2+;p1+;"), 1, 2, 2, 2, 2, 2, 2, 2), -9);
        DUE.is("the eighth may not be", judged(Due.with("p2+;p1+;"), 2, 2, 2, 2, 2, 2, 2, 12), 7);
        TopTurned x = Due.with("p2+;p1+;");
        Due.rows(x, 2, 2, 2, 2, 2, 2, 2, 2, 2);
        DUE.is("the ninth did not come", x.judge(), 8);
    }

    /** "told as 10 times i and j": which of 0 .. 99 tell a turn, and which turn. */
    private static void numbersThatTellTurns() {
        for (int plates = 0; plates <= 5; plates++) {
            String some = FIVE.substring(0, 4 * plates) + "l3;b1;";
            for (int v = 0; v <= 99; v++) {
                boolean is = v / 10 < v % 10 && v % 10 <= plates;
                TopTurned x = Due.with(some);
                x.row(v);
                DUE.is(some + " row " + v + " blind()", x.blind(), is ? 0 : -3);
                DUE.is(some + " row " + v + " judge()", judged(Due.with(some), v), is ? 1 : 0);
                if (is) {
                    x = Due.with(some);
                    x.turn(v / 10, v % 10);
                    DUE.is(some + " turned, and back by " + v, judged(x, v), -9);
                }
            }
        }
    }

    private static int blinded(TopTurned x, int... turns) {
        Due.rows(x, turns);
        int answer = x.blind();
        DUE.is("the row has none then", x.count(7), 0);
        DUE.is("none refused", x.count(13), 0);
        return answer;
    }

    /** "BLIND: a told ROW of TURNS: whether by it all STATES that SIGHTS allow (..) are IN ORDER at the end". */
    private static void blind() {
        DUE.is("no plates, none told", blinded(new TopTurned()), 1);
        DUE.is("one plate, none told", blinded(Due.with("p1-;")), 1);
        DUE.is("one plate, burnt, none told", blinded(Due.with("p1-;b1;")), 0);
        DUE.is("one plate, burnt, turned", blinded(Due.with("p1-;b1;"), 1), 1);
        DUE.is("two, no sights: both orders", blinded(Due.with("p1+;p2+;")), 0);
        DUE.is("two alike, no sights", blinded(Due.with("p4+;p4+;")), 1);
        DUE.is("one order", blinded(Due.with("p1+;p2+;s01;")), 1);
        DUE.is("the heap itself is not allowed", blinded(Due.with("p1+;p2+;s10;")), 0);
        DUE.is("the one that is allowed, turned", blinded(Due.with("p1+;p2+;s10;"), 2), 1);
        DUE.is("two orders, one not in order", blinded(Due.with("p1+;p2+;p3+;s01;s02;")), 0);
        DUE.is("two orders of alike ones", blinded(Due.with("p1+;p2+;p2+;s01;s02;")), 1);
        DUE.is("none is allowed", blinded(Due.with("p1+;p2+;s01;s10;"), 1), 1);
        DUE.is("round three, none is allowed", blinded(Due.with("p1+;p2+;p3+;s01;s12;s20;"), 3), 1);
        DUE.is("none is allowed, so none is stopped by the law", blinded(Due.with("p1+;p2+;s01;s10;"), 12), 1);
        DUE.is("stopped by the law, though in order again", blinded(Due.with("p1+;p2+;s01;"), 12, 12), 0);
        DUE.is("not stopped by it", blinded(Due.with("p1+;p2+;s01;l3;"), 12, 12), 1);
        DUE.is("stopped in one of two", blinded(Due.with("p4+;p4+;l2;k0;"), 1), 0);
        DUE.is("stopped in none", blinded(Due.with("p4+;p4+;l2;k0;s10;"), 1), 1);
    }

    /** "(.. sides as each PLATE has them now)": they go with the plate, not with the place. */
    private static void blindBySides() {
        TopTurned x = Due.with("p1+;p2-;s10;b1;");
        DUE.is("2 burnt on 1 clean: (0, 2) leaves 1 burnt", blinded(x, 2), 0);
        DUE.is("2 burnt on 1 clean: (0, 2) and (0, 1)", blinded(x, 2, 1), 1);
        DUE.is("2 burnt on 1 clean: (0, 1) and (0, 2) and (0, 1)", blinded(x, 1, 2, 1), 0);
        x.turn(0, 2);
        DUE.is("2 clean on 1 burnt: (0, 2) leaves 2 burnt", blinded(x, 2, 1), 0);
        DUE.is("2 clean on 1 burnt: (0, 1) and (0, 2)", blinded(x, 1, 2), 1);
    }

    private static void blindEight() {
        DUE.is("eight", blinded(Due.with("p1+;p2+;s01;"), 2, 2, 2, 2, 2, 2, 2, 2), 1);
        DUE.is("eight, the last is one too many", blinded(Due.with("p1+;p2+;s01;b1;"), 2, 2, 2, 2, 2, 2, 2, 1), 0);
    }

    private static void fewestOf(String text, int... want) {
        TopTurned x = Due.with(text);
        DUE.is(text + " fewest(-1)", x.fewest(-1), want.length);
        for (int i = 0; i < want.length; i++) {
            DUE.is(text + " fewest(" + i + ")", x.fewest(i), want[i]);
        }
        for (int i = want.length; i <= 4; i++) {
            DUE.is(text + " fewest(" + i + ")", x.fewest(i), -9);
        }
        DUE.is(text + " none refused", x.count(14), 0);
    }

    /** "FEWEST: the fewest TURNS (0 .. 3) of such a row; -9; the first: its i-th." */
    private static void fewest() {
        fewestOf("b1;");
        fewestOf("p1+;p2+;s01;");
        fewestOf("p1+;p2+;s01;s10;");
        fewestOf("p1-;b1;", 1);
        fewestOf("p1+;p2+;s10;", 2);
        fewestOf("p1-;p2+;s10;b1;", 1, 2);
        fewestOf("p1+;p2+;s10;b1;", 1, 2, 1);
        String[] never = {"p1-;p2-;s01;b1;", "p1+;p2+;", "p1+;p2+;s10;l1;m1;", "p1+;p2+;s10;l2;k1;", "p1-;b1;l4;"};
        for (String text : never) {
            for (int i = -1; i <= 4; i++) {
                DUE.is(text + " fewest(" + i + ")", Due.with(text).fewest(i), -9);
            }
        }
    }

    /** Of rows alike in length the first by its turns, one behind the other. */
    private static void fewestIsTheFirst() {
        fewestOf("p1-;p2-;s01;b1;l3;", 1, 12);
        fewestOf("p1+;p2+;s10;b1;l3;", 1, 2, 1);
        fewestOf("p1-;p2-;p3-;s01;s12;b1;l3;", 1, 12, 23);
        fewestOf("p1+;p2+;p3+;s01;s20;l3;", 2, 13);
        fewestOf("p1+;p2+;p3+;s10;s02;l4;", 2);
    }

    private static void blindOfFive() {
        String chain = "s43;s32;s21;s10;";
        DUE.is("five, upside down and clean", blinded(Due.with(FIVE + chain), 5), 1);
        DUE.is("five, upside down and clean, burnt ones matter", blinded(Due.with(FIVE + chain + "b1;"), 5), 0);
        TopTurned x = Due.with("p1-;p2-;p3-;p4-;p5-;b1;" + chain);
        DUE.is("five, upside down and burnt", blinded(x, 5), 1);
        DUE.is("five, upside down and burnt: fewest(-1)", x.fewest(-1), 1);
        DUE.is("five, upside down and burnt: fewest(0)", x.fewest(0), 5);
        x.turn(0, 5);
        DUE.is("five, upside down and clean: fewest(-1)", x.fewest(-1), -9);
        fewestOf("p1-;p2-;p3-;p4-;p5+;b1;l3;" + chain, 1, 5);
        fewestOf("p1+;p2-;p3-;p4-;p5-;b1;l3;" + chain, 5, 1);
        DUE.is("five, no sights: fewest(-1)", Due.with(FIVE + "l3;").fewest(-1), -9);
        fewestOf("p4-;p4+;p4-;p4+;p4-;s01;s12;s23;s34;s02;s13;l3;b1;", 1, 23, 45);
        fewestOf("p4-;p4-;p4-;p4-;p4-;l3;b1;", 5);
        fewestOf("p4+;p4-;p4+;p4-;p4+;");
    }

    /** "MATCH: two turn by turns (a TURN that MAY be; there is one or who must has lost); who makes it IN ORDER has won (..)". */
    private static void match() {
        String[] texts = {"b1;", "p1+;", FIVE + "l3;", "p1-;b1;", "p1-;b1;l4;", "p2+;p1+;l2;k0;", "p1+;p2+;l2;k0;",
            "p2+;p1+;", "p2+;p1+;l1;m1;", "p2+;p1+;l2;k1;", "p1-;p2-;b1;", "p2-;p1-;b1;", "p2-;p1-;b1;l4;", "p2+;p1+;b1;l4;"};
        int[] want = {0, 0, 0, 1, 0, 0, 0, 1, 2, 2, 2, 1, 1, 2};
        for (int k = 0; k < texts.length; k++) {
            DUE.is(texts[k] + " match()", Due.with(texts[k]).match(), want[k]);
        }
    }

    /** "A DRAW below m: z becomes z times 1664525 and 1013904223 (an int); (z without its sign's bit by 256, cut) modulo m." */
    private static void shuffledByOne() {
        // Behind (0, 1), (0, 2) and (0, 3) LEAST is 3, 4 and 5: so it tells which was drawn.
        TopTurned x = Due.with("p3+;p1+;p2-;b1;");
        int[] seeds = {0, 1, -1, Integer.MAX_VALUE, Integer.MIN_VALUE};
        int[] want = {5, 3, 4, 4, 5};
        for (int k = 0; k < seeds.length; k++) {
            DUE.is("shuffled(1, " + seeds[k] + ")", x.shuffled(1, seeds[k]), want[k]);
            DUE.is("no turns: shuffled(0, " + seeds[k] + ")", x.shuffled(0, seeds[k]), 4);
        }
        DUE.is("no plates: shuffled(30, 1)", new TopTurned().shuffled(30, 1), 0);
        DUE.is("none may be, in order: shuffled(30, 1)", Due.with("p1+;p2+;l2;k0;").shuffled(30, 1), 0);
        DUE.is("none may be, not in order: shuffled(30, 1)", Due.with("p2+;p1+;l2;k0;").shuffled(30, 1), -9);
        DUE.is("one may be, 29 times: shuffled(29, 1)", Due.with("p2+;p1+;l4;").shuffled(29, 1), 0);
        DUE.is("one may be, 30 times: shuffled(30, 1)", Due.with("p2+;p1+;l4;").shuffled(30, 1), 1);
    }

    /** "SHUFFLED with a seed z: n TURNS (0 .. 30), each by a DRAW below how many MAY be (by order)": made one by one here. */
    private static void shuffledOnAndOn() {
        int[] seeds = {0, 1, -1, 12345, Integer.MAX_VALUE, Integer.MIN_VALUE};
        String[] laws = {"l0;b1;", "l1;m3;b1;", "l2;k4;b1;", "l3;b1;", "l4;"};
        int[] turns = {1, 2, 3, 29, 30};
        for (String law : laws) {
            for (int z : seeds) {
                for (int n : turns) {
                    String text = "p2-;p4+;p1-;p5+;p3+;" + law;
                    DUE.is(text + " shuffled(" + n + ", " + z + ")", Due.with(text).shuffled(n, z), madeOneByOne(text, n, z));
                }
            }
        }
    }

    /** A new object for each turn, so that none has more calls than it is for. */
    private static int madeOneByOne(String text, int n, int z) {
        TopTurned x = Due.with(text);
        long seed = z;
        for (int k = 0; k < n; k++) {
            seed = Math.floorMod(seed * 1664525L + 1013904223L, 1L << 32);
            if (x.count(9) > 0) {
                turnTheOne(x, (int) (seed % (1L << 31) / 256 % x.count(9)));
            }
            x = Due.with(asItLies(x));
        }
        return x.least();
    }

    private static void turnTheOne(TopTurned x, int ahead) {
        int many = 0;
        for (int i = 0; i < 5; i++) {
            for (int j = i + 1; j <= 5; j++) {
                if (x.may(i, j) == 1 && many++ == ahead) {
                    x.turn(i, j);
                    return;
                }
            }
        }
    }

    private static String asItLies(TopTurned x) {
        StringBuilder text = new StringBuilder();
        int kept = 9;
        for (int place = 0; place < x.count(0); place++) {
            text.append('p').append(x.place(place, 1)).append(x.place(place, 2) == 1 ? "-;" : "+;");
            kept = x.place(place, 0) == x.count(4) ? place : kept;
        }
        text.append('l').append(x.count(2)).append(";m").append(x.count(3)).append(";k").append(kept);
        return text.append(";b").append(x.count(5)).append(';').toString();
    }

    /** "THE IMAGE: all that is told, THE HEAP, COST so far; ON from it all is as then." */
    private static void image() {
        TopTurned x = new TopTurned();
        DUE.is("of no plates: image()", x.image(), 0);
        Due.tell(x, FIVE + "l4;m1;k4;b1;c99;s01;");
        x.turn(0, 2);
        x.row(1);
        x.letter('p');
        DUE.is("on()", x.on(), 0);
        int[] first = {0, 0, 0, 5, 9, 0, 0, 0, 0, 0};
        for (int what = 0; what < first.length; what++) {
            DUE.is("as at first: count(" + what + ")", x.count(what), first[what]);
        }
        Due.tell(x, "p1+;");
        DUE.is("cost as at first", x.turn(0, 1), 1);
        DUE.is("of one: image()", x.image(), 1);
        Due.tell(x, "p2+;p3+;p4+;p5+;");
        DUE.is("of five: image()", x.image(), 5);
        DUE.is("five: on()", x.on(), 5);
        DUE.is("again: on()", x.on(), 5);
        DUE.same("as then", Due.heap(x), "10 1 2 3 4");
        x.turn(0, 5);
        DUE.is("what comes behind it is not in it: on()", x.on(), 5);
        DUE.same("as then", Due.heap(x) + " " + x.count(6), "10 1 2 3 4 1");
        DUE.is("no room for a sixth, as then", Due.tell(x, "p1+;"), -2000);
    }
}
