/**
 * Promises 13 (far) and 14 (worst) at their edges: how many states are in order in just n turns, from n -1
 * (never) to the last n, and the first of the worst. The table was reckoned by a program of its own in
 * another language; its rows for TOPS are the known numbers of pancakes and of burnt ones.
 */
public final class FarTest {
    private static final Due DUE = new Due("FarTest");
    /** A kitchen, the greatest LEAST, the first state that has it, and FAR of -1, 0, 1 .. 10. */
    private static final String[] TABLE = {
        "p1+;l0;b0; | 0 | 0 | 0 2 0 0 0 0 0 0 0 0 0 0",
        "p1+;l0;b1; | 1 | 10 | 0 1 1 0 0 0 0 0 0 0 0 0",
        "p1+;l3;b0; | 0 | 0 | 0 2 0 0 0 0 0 0 0 0 0 0",
        "p1+;l3;b1; | 1 | 10 | 0 1 1 0 0 0 0 0 0 0 0 0",
        "p1+;l4;b0; | 0 | 0 | 0 2 0 0 0 0 0 0 0 0 0 0",
        "p1+;l4;b1; | 0 | 0 | 1 1 0 0 0 0 0 0 0 0 0 0",
        "p1+;l1;m2;b0; | 0 | 0 | 0 2 0 0 0 0 0 0 0 0 0 0",
        "p1+;l1;m2;b1; | 1 | 10 | 0 1 1 0 0 0 0 0 0 0 0 0",
        "p1+;l1;m3;b0; | 0 | 0 | 0 2 0 0 0 0 0 0 0 0 0 0",
        "p1+;l1;m3;b1; | 1 | 10 | 0 1 1 0 0 0 0 0 0 0 0 0",
        "p1+;l2;k0;b0; | 0 | 0 | 0 2 0 0 0 0 0 0 0 0 0 0",
        "p1+;l2;k0;b1; | 0 | 0 | 1 1 0 0 0 0 0 0 0 0 0 0",
        "p1+;p2+;l0;b1; | 4 | 10 11 | 0 1 2 2 2 1 0 0 0 0 0 0",
        "p1+;p2+;l3;b1; | 3 | 1 0 | 0 1 3 3 1 0 0 0 0 0 0 0",
        "p1+;p2+;l4;b1; | 1 | 11 10 | 6 1 1 0 0 0 0 0 0 0 0 0",
        "p1+;p2+;l2;k0;b1; | 0 | 0 1 | 7 1 0 0 0 0 0 0 0 0 0 0",
        "p2+;p1+;l0;b1; | 4 | 11 10 | 0 1 2 2 2 1 0 0 0 0 0 0",
        "p2+;p1+;l3;b1; | 3 | 0 1 | 0 1 3 3 1 0 0 0 0 0 0 0",
        "p2+;p1+;l4;b1; | 1 | 10 11 | 6 1 1 0 0 0 0 0 0 0 0 0",
        "p2+;p1+;l2;k0;b1; | 1 | 11 0 | 6 1 1 0 0 0 0 0 0 0 0 0",
        "p1+;p1+;l0;b1; | 2 | 0 11 | 0 2 4 2 0 0 0 0 0 0 0 0",
        "p1+;p1+;l3;b1; | 1 | 0 11 | 0 2 6 0 0 0 0 0 0 0 0 0",
        "p1+;p1+;l4;b1; | 1 | 10 11 | 4 2 2 0 0 0 0 0 0 0 0 0",
        "p1+;p1+;l2;k0;b1; | 1 | 11 0 | 5 2 1 0 0 0 0 0 0 0 0 0",
        "p1+;p2+;p3+;l0;b1; | 6 | 0 11 12 | 0 1 3 6 12 18 6 2 0 0 0 0",
        "p1+;p2+;p3+;l4;b1; | 3 | 2 1 0 | 42 1 2 2 1 0 0 0 0 0 0 0",
        "p1+;p2+;p3+;l1;m2;b1; | 4 | 10 11 2 | 40 1 2 2 2 1 0 0 0 0 0 0",
        "p1+;p2+;p3+;l2;k0;b1; | 0 | 0 1 2 | 47 1 0 0 0 0 0 0 0 0 0 0",
        "p3+;p2+;p1+;l0;b1; | 6 | 2 11 10 | 0 1 3 6 12 18 6 2 0 0 0 0",
        "p3+;p2+;p1+;l4;b1; | 3 | 0 1 2 | 42 1 2 2 1 0 0 0 0 0 0 0",
        "p3+;p2+;p1+;l1;m2;b1; | 4 | 12 11 0 | 40 1 2 2 2 1 0 0 0 0 0 0",
        "p3+;p2+;p1+;l2;k0;b1; | 4 | 12 11 0 | 40 1 2 2 2 1 0 0 0 0 0 0",
        "p1+;p2+;p1+;l0;b1; | 5 | 0 12 11 | 0 2 6 10 16 12 2 0 0 0 0 0",
        "p1+;p2+;p1+;l4;b1; | 3 | 1 0 2 | 36 2 4 4 2 0 0 0 0 0 0 0",
        "p1+;p2+;p1+;l1;m2;b1; | 2 | 0 12 1 | 40 2 4 2 0 0 0 0 0 0 0 0",
        "p1+;p2+;p1+;l2;k0;b1; | 1 | 12 0 1 | 45 2 1 0 0 0 0 0 0 0 0 0",
        "p1+;p2+;p3+;p4+;l0;b0; | 4 | 1 3 0 2 | 0 16 48 96 176 48 0 0 0 0 0 0",
        "p1+;p2+;p3+;p4+;l0;b1; | 8 | 0 11 12 13 | 0 1 4 12 36 90 124 96 18 3 0 0",
        "p1+;p2+;p3+;p4+;l3;b1; | 5 | 1 0 3 2 | 0 1 10 50 170 145 8 0 0 0 0 0",
        "p1+;p2+;p3+;p4+;l2;k0;b1; | 0 | 0 1 2 3 | 383 1 0 0 0 0 0 0 0 0 0 0",
        "p4+;p3+;p2+;p1+;l0;b0; | 4 | 0 2 1 3 | 0 16 48 96 176 48 0 0 0 0 0 0",
        "p4+;p3+;p2+;p1+;l0;b1; | 8 | 2 3 11 10 | 0 1 4 12 36 90 124 96 18 3 0 0",
        "p4+;p3+;p2+;p1+;l3;b1; | 5 | 0 1 2 3 | 0 1 10 50 170 145 8 0 0 0 0 0",
        "p4+;p3+;p2+;p1+;l2;k0;b1; | 6 | 3 12 11 0 | 336 1 3 6 12 18 6 2 0 0 0 0",
        "p1+;p2+;p3+;p4+;p5+;l0;b0; | 5 | 0 2 1 4 3 | 0 32 128 384 1120 1536 640 0 0 0 0 0",
        "p1+;p2+;p3+;p4+;p5+;l0;b1; | 10 | 0 11 12 13 14 | 0 1 5 20 80 280 680 1214 1127 389 40 4",
        "p1+;p2+;p3+;p4+;p5+;l3;b0; | 4 | 1 3 0 4 2 | 0 32 320 1664 1760 64 0 0 0 0 0 0",
        "p1+;p2+;p3+;p4+;p5+;l3;b1; | 6 | 1 0 2 4 3 | 0 1 15 120 700 1554 1447 3 0 0 0 0",
        "p1+;p2+;p3+;p4+;p5+;l4;b0; | 5 | 2 1 4 3 0 | 0 32 192 672 1792 1056 96 0 0 0 0 0",
        "p1+;p2+;p3+;p4+;p5+;l4;b1; | 5 | 2 1 4 3 0 | 3720 1 6 21 56 33 3 0 0 0 0 0",
        "p1+;p2+;p3+;p4+;p5+;l1;m2;b0; | 1 | 1 0 2 3 4 | 3776 32 32 0 0 0 0 0 0 0 0 0",
        "p1+;p2+;p3+;p4+;p5+;l1;m2;b1; | 4 | 10 11 2 3 4 | 3832 1 2 2 2 1 0 0 0 0 0 0",
        "p1+;p2+;p3+;p4+;p5+;l1;m3;b0; | 3 | 0 2 1 3 4 | 3648 32 64 64 32 0 0 0 0 0 0 0",
        "p1+;p2+;p3+;p4+;p5+;l1;m3;b1; | 6 | 0 11 12 3 4 | 3792 1 3 6 12 18 6 2 0 0 0 0",
        "p1+;p2+;p3+;p4+;p5+;l2;k0;b0; | 0 | 0 1 2 3 4 | 3808 32 0 0 0 0 0 0 0 0 0 0",
        "p1+;p2+;p3+;p4+;p5+;l2;k0;b1; | 0 | 0 1 2 3 4 | 3839 1 0 0 0 0 0 0 0 0 0 0",
        "p5+;p4+;p3+;p2+;p1+;l0;b0; | 5 | 0 2 4 1 3 | 0 32 128 384 1120 1536 640 0 0 0 0 0",
        "p5+;p4+;p3+;p2+;p1+;l0;b1; | 10 | 2 3 4 11 10 | 0 1 5 20 80 280 680 1214 1127 389 40 4",
        "p5+;p4+;p3+;p2+;p1+;l4;b0; | 5 | 0 1 2 3 4 | 0 32 192 672 1792 1056 96 0 0 0 0 0",
        "p5+;p4+;p3+;p2+;p1+;l2;k0;b0; | 4 | 1 3 2 4 0 | 3072 32 96 192 352 96 0 0 0 0 0 0",
        "p5+;p4+;p3+;p2+;p1+;l2;k0;b1; | 8 | 3 4 12 11 0 | 3456 1 4 12 36 90 124 96 18 3 0 0",
        "p2+;p1+;p2+;p1+;p2+;l0;b0; | 3 | 0 1 2 3 4 | 0 384 1152 1152 1152 0 0 0 0 0 0 0",
        "p2+;p1+;p2+;p1+;p2+;l0;b1; | 7 | 10 2 1 13 14 | 0 12 60 192 600 1248 1176 528 24 0 0 0",
        "p2+;p1+;p2+;p1+;p2+;l3;b0; | 2 | 0 1 2 3 4 | 0 384 2304 1152 0 0 0 0 0 0 0 0",
        "p2+;p1+;p2+;p1+;p2+;l3;b1; | 4 | 0 1 12 3 14 | 0 12 180 984 2364 300 0 0 0 0 0 0",
        "p2+;p1+;p2+;p1+;p2+;l4;b0; | 2 | 0 1 2 3 4 | 0 384 1152 2304 0 0 0 0 0 0 0 0",
        "p2+;p1+;p2+;p1+;p2+;l4;b1; | 4 | 0 11 2 3 14 | 3120 12 72 204 396 36 0 0 0 0 0 0",
        "p2+;p1+;p2+;p1+;p2+;l1;m2;b0; | 0 | 1 3 0 2 4 | 3456 384 0 0 0 0 0 0 0 0 0 0",
        "p2+;p1+;p2+;p1+;p2+;l1;m2;b1; | 2 | 1 13 0 2 4 | 3792 12 24 12 0 0 0 0 0 0 0 0",
        "p2+;p1+;p2+;p1+;p2+;l1;m3;b0; | 2 | 1 0 3 2 4 | 2688 384 384 384 0 0 0 0 0 0 0 0",
        "p2+;p1+;p2+;p1+;p2+;l1;m3;b1; | 5 | 1 13 10 2 4 | 3552 12 36 60 96 72 12 0 0 0 0 0",
        "p2+;p1+;p2+;p1+;p2+;l2;k0;b0; | 3 | 2 1 4 3 0 | 2560 384 384 384 128 0 0 0 0 0 0 0",
        "p2+;p1+;p2+;p1+;p2+;l2;k0;b1; | 6 | 11 2 13 14 0 | 3344 12 36 64 128 164 80 12 0 0 0 0"};
    private static final int[] STATES = {1, 2, 8, 48, 384, 3840};

    public static void main(String[] args) {
        for (String line : TABLE) {
            String[] parts = line.split(" \\| ");
            far(parts[0], parts[3].split(" "));
            worst(parts[0], Integer.parseInt(parts[1]), parts[2].split(" "));
        }
        noPlates();
        whereverTheHeapLies();
        DUE.end();
    }

    private static void far(String kitchen, String[] want) {
        TopTurned x = Due.with(kitchen);
        int all = 0;
        for (int n = -1; n <= 20; n++) {
            int due = n + 1 < want.length ? Integer.parseInt(want[n + 1]) : 0;
            DUE.is(kitchen + " far(" + n + ")", x.far(n), due);
            all += x.far(n);
        }
        DUE.is(kitchen + " all states", all, STATES[x.count(0)]);
    }

    private static void worst(String kitchen, int most, String[] codes) {
        TopTurned x = Due.with(kitchen);
        DUE.is(kitchen + " worst(-1)", x.worst(-1), most);
        for (int place = 0; place < codes.length; place++) {
            DUE.is(kitchen + " worst(" + place + ")", x.worst(place), Integer.parseInt(codes[place]));
        }
        DUE.is(kitchen + " worst(" + codes.length + ")", x.worst(codes.length), -1);
    }

    private static void noPlates() {
        for (String kitchen : new String[] {"b0;", "b1;", "l2;", "l4;b1;"}) {
            TopTurned x = Due.with(kitchen);
            for (int n = -1; n <= 20; n++) {
                DUE.is("no plates, " + kitchen + " far(" + n + ")", x.far(n), n == 0 ? 1 : 0);
            }
        }
    }

    /** "of all STATES of these PLATES": not of those alone that this heap can get to. */
    private static void whereverTheHeapLies() {
        TopTurned x = Due.with("p1+;p2+;p3+;l1;m2;b1;");
        x.law(3);
        x.turn(1, 3);
        x.law(1);
        DUE.is("it can not be in order: least()", x.least(), -9);
        DUE.is("far(-1)", x.far(-1), 40);
        DUE.is("far(4)", x.far(4), 1);
        DUE.is("worst(-1)", x.worst(-1), 4);
        DUE.is("worst(0)", x.worst(0), 10);
        DUE.is("worst(1)", x.worst(1), 11);
        DUE.is("worst(2)", x.worst(2), 2);
    }
}
