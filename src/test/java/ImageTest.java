/** Promises 26 (image) and 27 (on). */
public final class ImageTest {
    private static final Due DUE = new Due("ImageTest");

    public static void main(String[] args) {
        noImage();
        allIsAsThen();
        anotherImage();
        platesThatCameLaterAreGone();
        theRowIsToldToo();
        DUE.end();
    }

    private static void noImage() {
        TopTurned x = Due.with("p1+;p2+;");
        DUE.is("on()", x.on(), -3);
        DUE.is("count(13)", x.count(13), 1);
        DUE.is("count(0)", x.count(0), 2);
        DUE.is("image()", x.image(), 2);
        DUE.is("on()", x.on(), 2);
    }

    private static void allIsAsThen() {
        TopTurned x = Due.with("p3+;p1-;p2+;l3;m2;k1;b1;c23;s01;");
        x.turn(1, 3);
        x.row(2);
        x.letter('b');
        DUE.is("image()", x.image(), 3);
        int least = x.least();
        int cheapest = x.cheapest();
        x.turn(0, 2);
        x.row(3);
        x.kitchen();
        Due.tell(x, "p9+;p8-;l1;m1;k9;b0;c00;s12;");
        x.law(0);
        x.judge();
        x.letter(-1);
        DUE.is("on()", x.on(), 3);
        int[] then = {3, 1, 3, 2, 1, 1, 11, 1, 1, 6};
        for (int what = 0; what < then.length; what++) {
            DUE.is("count(" + what + ")", x.count(what), then[what]);
        }
        DUE.holds("the heap", Due.heap(x).equals("0 12 1"));
        DUE.is("least()", x.least(), least);
        DUE.is("cheapest()", x.cheapest(), cheapest);
        DUE.is("sights(0, 1)", x.sights(0, 1), 1);
        DUE.is("the letters go on", x.letter('0'), 2);
        DUE.is("the letters go on", x.letter(';'), 3);
        DUE.is("the letters are read", x.kitchen(), 1);
        DUE.is("refusals are not of the image", x.count(14), 1);
        DUE.is("a turn costs as then", x.turn(0, 1), 5);
        DUE.is("the image stays as it was", x.on(), 3);
        DUE.is("paid", x.count(6), 11);
    }

    private static void anotherImage() {
        TopTurned x = Due.with("p1+;p2+;");
        x.image();
        x.turn(0, 2);
        DUE.is("the later one counts", x.image(), 2);
        x.turn(0, 1);
        x.on();
        DUE.holds("the heap", Due.heap(x).equals("11 10"));
    }

    private static void theRowIsToldToo() {
        TopTurned x = Due.with("p3+;p1+;p2+;");
        Due.rows(x, 3, 2);
        x.image();
        DUE.is("judge()", x.judge(), -9);
        Due.rows(x, 9, 9, 9);
        x.on();
        DUE.is("the row as it was then: judge()", x.judge(), -9);
    }

    private static void platesThatCameLaterAreGone() {
        TopTurned x = new TopTurned();
        DUE.is("image()", x.image(), 0);
        Due.tell(x, "p2+;p1+;");
        DUE.is("least()", x.least(), 1);
        DUE.is("on()", x.on(), 0);
        DUE.is("least()", x.least(), 0);
        DUE.is("place(0, 0)", x.place(0, 0), -1);
        DUE.is("may(0, 1)", x.may(0, 1), -1);
        DUE.is("far(0)", x.far(0), 1);
        Due.tell(x, "p4-;");
        DUE.is("place(0, 0)", x.place(0, 0), 0);
        DUE.is("place(0, 1)", x.place(0, 1), 4);
    }
}
