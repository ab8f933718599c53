/** Promises 16 (next) and 17 (rule). */
public final class WaiterTest {
    private static final Due DUE = new Due("WaiterTest");

    public static void main(String[] args) {
        first();
        gap();
        shortest();
        cheap();
        large();
        inOrderAndNone();
        wrongKinds();
        DUE.end();
    }

    private static void first() {
        TopTurned x = Due.with("p2+;p1+;p3+;");
        DUE.is("next(0)", x.next(0), 1);
        DUE.is("it turns the top one for ever: rule(0)", x.rule(0), -9);
        x.law(4);
        DUE.is("even: next(0)", x.next(0), 2);
        DUE.is("even: rule(0)", x.rule(0), 1);
        DUE.is("one burnt: rule(0)", Due.with("p5-;b1;").rule(0), 1);
        x.law(2);
        Due.tell(x, "k0;");
        DUE.is("none may be: next(0)", x.next(0), -9);
        DUE.is("none may be: rule(0)", x.rule(0), -9);
    }

    private static void gap() {
        TopTurned x = Due.with("p3+;p1+;p2+;");
        DUE.is("next(1)", x.next(1), 3);
        DUE.is("rule(1)", x.rule(1), 2);
        // Behind (0, 1) and (0, 2) alike one gap is left: the first.
        TopTurned y = Due.with("p1+;p1+;p3+;p2+;l1;m2;");
        DUE.is("of several the first: next(1)", y.next(1), 1);
        TopTurned z = Due.with("p1-;p2+;b1;l3;");
        DUE.is("sides count: next(1)", z.next(1), 1);
    }

    private static void shortest() {
        TopTurned x = Due.with("p2+;p1+;b1;");
        DUE.is("next(2)", x.next(2), 1);
        DUE.is("rule(2)", x.rule(2), 3);
        x.turn(0, 1);
        DUE.is("next(2)", x.next(2), 2);
        x.law(1);
        Due.tell(x, "m1;");
        DUE.is("it never can be: next(2)", x.next(2), -9);
        DUE.is("rule(2)", x.rule(2), -9);
    }

    private static void cheap() {
        TopTurned x = Due.with("p2+;p4+;p3-;b1;c01;");
        DUE.is("rule(2)", x.rule(2), 4);
        DUE.is("rule(3)", x.rule(3), 5);
        TopTurned y = Due.with("p2+;p1+;b1;l3;c90;");
        DUE.is("next(3)", y.next(3), 1);
        DUE.is("rule(3)", y.rule(3), 3);
        TopTurned free = Due.with("p2+;p1+;c00;");
        DUE.is("for nothing the first is as cheap: next(3)", free.next(3), 1);
        DUE.is("and it goes on for ever: rule(3)", free.rule(3), -9);
        free.law(1);
        Due.tell(free, "m1;");
        DUE.is("it never can be: next(3)", free.next(3), -9);
    }

    private static void large() {
        TopTurned x = Due.with("p2+;p3+;p1+;");
        DUE.is("it lies within: next(4)", x.next(4), 2);
        DUE.is("rule(4)", x.rule(4), 2);
        x.turn(0, 2);
        DUE.is("it lies on top: next(4)", x.next(4), 3);
        DUE.is("of several the lowest: next(4)", Due.with("p3+;p3+;p1+;").next(4), 2);
        DUE.is("and so for ever: rule(4)", Due.with("p3+;p3+;p1+;").rule(4), -9);
        DUE.is("what lies right below stays: next(4)", Due.with("p2+;p1+;p3+;p4+;p5+;").next(4), 2);
        DUE.is("alike ones below stay too: next(4)", Due.with("p2+;p1+;p3+;p3+;").next(4), 2);
        x.law(4);
        DUE.is("may or not: next(4)", x.next(4), 3);
        DUE.is("may or not: rule(4)", x.rule(4), 1);
        Due.tell(x, "l2;k1;");
        DUE.is("kept or not: next(4)", x.next(4), 3);
        TopTurned burnt = Due.with("p1-;p2+;b1;");
        DUE.is("sides aside there is no k: next(4)", burnt.next(4), -9);
        DUE.is("rule(4)", burnt.rule(4), -9);
    }

    private static void inOrderAndNone() {
        TopTurned x = Due.with("p1+;p2-;");
        TopTurned none = Due.with("p2+;p1+;l2;k0;");
        for (int kind = 0; kind < 5; kind++) {
            DUE.is("in order: next(" + kind + ")", x.next(kind), -9);
            DUE.is("in order: rule(" + kind + ")", x.rule(kind), 0);
            DUE.is("none may be: next(" + kind + ")", none.next(kind), kind == 4 ? 2 : -9);
            DUE.is("none may be: rule(" + kind + ")", none.rule(kind), kind == 4 ? 1 : -9);
        }
        DUE.holds("nothing is turned", Due.heap(none).equals("0 1") && none.count(6) == 0);
    }

    private static void wrongKinds() {
        TopTurned x = new TopTurned();
        DUE.is("next(-1)", x.next(-1), -2);
        DUE.is("next(5)", x.next(5), -2);
        DUE.is("rule(-1)", x.rule(-1), -2);
        DUE.is("rule(5)", x.rule(5), -2);
        DUE.is("count(12)", x.count(12), 4);
    }
}
