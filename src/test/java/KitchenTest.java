/** Promises 1 (new), 2 (letter), 3 (kitchen), 4 (place), 25 (sights), 28 (count). */
public final class KitchenTest {
    private static final Due DUE = new Due("KitchenTest");

    public static void main(String[] args) {
        aNewObject();
        letters();
        statements();
        lettersThatDoNotFit();
        statementsNotAsTheyMustBe();
        aFaultBringsNothing();
        morePlatesLater();
        places();
        sights();
        counts();
        DUE.end();
    }

    private static void aNewObject() {
        TopTurned x = new TopTurned();
        int[] first = {0, 0, 0, 5, 9, 0, 0, 0, 0, 0, -9, 0, 0, 0, 0, 0, 0};
        for (int what = 0; what < first.length; what++) {
            DUE.is("new: count(" + what + ")", x.count(what), first[what]);
        }
        DUE.is("new: turn costs 1 and 0", Due.tell(x, "p1+;p1+;"), 2);
        DUE.is("turn(0, 2)", x.turn(0, 2), 1);
    }

    private static void letters() {
        TopTurned x = new TopTurned();
        DUE.is("letter(-1)", x.letter(-1), -4);
        DUE.is("letter(256)", x.letter(256), -6);
        DUE.is("letter(least)", x.letter(Integer.MIN_VALUE), -4);
        DUE.is("letter(greatest)", x.letter(Integer.MAX_VALUE), -6);
        DUE.is("letter(0)", x.letter(0), 1);
        DUE.is("letter(255)", x.letter(255), 2);
        for (int k = 3; k <= 64; k++) {
            DUE.is("letter " + k, x.letter('p'), k);
        }
        DUE.is("letter 65", x.letter('p'), -6);
        DUE.is("letter(-1) of a full row", x.letter(-1), -4);
        DUE.is("count(8)", x.count(8), 64);
        DUE.is("count(14)", x.count(14), 3);
        DUE.is("count(16)", x.count(16), 3);
        DUE.is("kitchen()", x.kitchen(), -1000);
        DUE.is("count(8) behind it", x.count(8), 0);
    }

    private static void statements() {
        TopTurned x = new TopTurned();
        DUE.is("all kinds", Due.tell(x, "p3+;p1-;l2;m4;k1;b1;c27;s01;s10;"), 9);
        int[] then = {2, 2, 2, 4, 1, 1, 0, 0, 0};
        for (int what = 0; what < then.length; what++) {
            DUE.is("count(" + what + ")", x.count(what), then[what]);
        }
        DUE.is("k9 again", Due.tell(x, "k9;l0;"), 2);
        DUE.is("count(4)", x.count(4), 9);
        DUE.is("cost of a turn", x.turn(0, 2), 16);
        DUE.is("64 letters", Due.tell(x, "c12;".repeat(16)), 16);
        DUE.is("a sight twice is two sights", Due.tell(x, "s01;s01;s01;s01;"), 4);
        DUE.is("count(1)", x.count(1), 6);
    }

    private static void lettersThatDoNotFit() {
        String[] texts = {"", "x", ";", "p", "p1", "p1+", "p1;", "p12+;", "p+1;", "p1*;", "pp1+;", "P1+;", "l", "l1",
            "l1+;", "l12;", "c1;", "c123;", "s0;", "s0+;", "b;", "m1;k", "m1;k9", "m1; k9;", "m1;;", "p0+;x", "l9;l", "c12"};
        int[] places = {0, 0, 0, 1, 2, 3, 2, 2, 1, 2, 1, 0, 1, 2,
            2, 2, 2, 3, 2, 2, 1, 4, 5, 3, 3, 4, 4, 3};
        for (int k = 0; k < texts.length; k++) {
            TopTurned x = new TopTurned();
            DUE.is("\"" + texts[k] + "\"", Due.tell(x, texts[k]), -1000 - places[k]);
            DUE.is("letters behind \"" + texts[k] + "\"", x.count(8), 0);
        }
        TopTurned x = new TopTurned();
        DUE.is("64 letters, the last lacks", Due.tell(x, "c12;".repeat(15) + "c123"), -1063);
        DUE.is("64 letters and still one lacks", Due.tell(x, "l1;".repeat(20) + "m1;k"), -1064);
    }

    private static void statementsNotAsTheyMustBe() {
        String[] texts = {"p0+;", "l5;", "l4;l9;", "m0;", "m6;", "m5;m9;", "k0;", "p1+;k1;", "k0;p1+;", "k8;", "b2;",
            "b1;b9;", "s01;", "p1+;s01;", "p1+;p1+;s02;", "p1+;p1+;s20;", "p1+;p1+;s11;", "s01;p1+;p1+;",
            "p1+;p1+;p1+;p1+;p1+;p1+;", "p1+;p1+;s01;s01;s01;s01;s01;s01;s01;", "l5;p0+;"};
        int[] places = {0, 0, 3, 0, 0, 3, 0, 4, 0, 0, 0,
            3, 0, 4, 8, 8, 8, 0,
            20, 32, 0};
        for (int k = 0; k < texts.length; k++) {
            TopTurned x = new TopTurned();
            DUE.is("\"" + texts[k] + "\"", Due.tell(x, texts[k]), -2000 - places[k]);
        }
        TopTurned x = Due.with("p1+;p1+;p1+;p1+;");
        DUE.is("only one more", Due.tell(x, "p1+;p1+;"), -2004);
        DUE.is("one more", Due.tell(x, "p1+;"), 1);
        DUE.is("none more", Due.tell(x, "l3;p1+;"), -2003);
        DUE.is("the last plate kept", Due.tell(x, "k4;"), 1);
        DUE.is("a plate of another kitchen", Due.tell(x, "k5;"), -2000);
    }

    private static void aFaultBringsNothing() {
        TopTurned x = Due.with("p2+;p1-;s01;");
        DUE.is("fault", Due.tell(x, "p3+;l3;m2;k1;b1;c99;s10;p0+;"), -2024);
        int[] then = {2, 1, 0, 5, 9, 0, 0, 0, 0, 2};
        for (int what = 0; what < then.length; what++) {
            DUE.is("behind a fault: count(" + what + ")", x.count(what), then[what]);
        }
        for (int what = 11; what <= 16; what++) {
            DUE.is("a fault is not counted: count(" + what + ")", x.count(what), 0);
        }
        DUE.is("cost behind a fault", x.turn(0, 2), 1);
        DUE.holds("heap behind a fault", Due.heap(x).equals("1 10"));
    }

    private static void morePlatesLater() {
        TopTurned x = Due.with("p2+;p1+;");
        x.turn(0, 2);
        x.row(7);
        DUE.is("one more", Due.tell(x, "p3-;"), 1);
        DUE.holds("it lies under the others", Due.heap(x).equals("11 10 12"));
        DUE.is("paid so far stays", x.count(6), 1);
        DUE.is("the row stays", x.count(7), 1);
    }

    private static void places() {
        TopTurned x = Due.with("p7+;p9-;");
        int[][] want = {{0, 7, 0}, {1, 9, 1}};
        for (int place = 0; place < 2; place++) {
            for (int what = 0; what < 3; what++) {
                DUE.is("place(" + place + ", " + what + ")", x.place(place, what), want[place][what]);
            }
        }
        x.turn(0, 2);
        DUE.is("place(0, 0)", x.place(0, 0), 1);
        DUE.is("place(0, 1)", x.place(0, 1), 9);
        DUE.is("place(0, 2)", x.place(0, 2), 0);
        DUE.is("place(1, 2)", x.place(1, 2), 1);
        DUE.is("place(-1, 0)", x.place(-1, 0), -1);
        DUE.is("place(2, 0)", x.place(2, 0), -1);
        DUE.is("place(2, 9)", x.place(2, 9), -1);
        DUE.is("place(0, 3)", x.place(0, 3), -2);
        DUE.is("place(1, -1)", x.place(1, -1), -2);
        DUE.is("count(11)", x.count(11), 3);
        DUE.is("count(12)", x.count(12), 2);
    }

    private static void sights() {
        TopTurned x = Due.with("p1+;p2+;p3+;s02;s21;");
        DUE.is("sights(0, 0)", x.sights(0, 0), 0);
        DUE.is("sights(0, 1)", x.sights(0, 1), 2);
        DUE.is("sights(1, 0)", x.sights(1, 0), 2);
        DUE.is("sights(1, 1)", x.sights(1, 1), 1);
        DUE.is("sights(2, 0)", x.sights(2, 0), -1);
        DUE.is("sights(-1, 5)", x.sights(-1, 5), -1);
        DUE.is("sights(1, 2)", x.sights(1, 2), -2);
        DUE.is("sights(1, -1)", x.sights(1, -1), -2);
    }

    private static void counts() {
        TopTurned x = Due.with("p1+;p2+;p3+;");
        int[] lawful = {3, 3, 3, 6, 2};
        for (int law = 0; law < 5; law++) {
            x.law(law);
            DUE.is("count(9) under law " + law, x.count(9), lawful[law]);
        }
        DUE.is("count(10)", x.count(10), -9);
        DUE.is("count(17)", x.count(17), -9);
        DUE.is("count(-1)", x.count(-1), -9);
        DUE.is("count(greatest)", x.count(Integer.MAX_VALUE), -9);
        DUE.is("count(least)", x.count(Integer.MIN_VALUE), -9);
        x.may(9, 9);
        x.law(9);
        x.on();
        x.row(-1);
        x.row(100);
        for (int what = 11; what <= 16; what++) {
            DUE.is("one of each: count(" + what + ")", x.count(what), what == 15 ? 0 : 1);
        }
    }
}
