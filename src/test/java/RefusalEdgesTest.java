import java.util.Arrays;
import java.util.function.Supplier;

/**
 * "REFUSALS (the call answers the number, the first that fits in the order in which it tells them;
 * nothing changes but how many there were)": each call's refusals, from the first number on that is
 * too small or too large, and beside them the last number that is neither.
 */
public final class RefusalEdgesTest {
    private static final Due DUE = new Due("RefusalEdgesTest");
    private static final int LEAST = Integer.MIN_VALUE;
    private static final int GREATEST = Integer.MAX_VALUE;

    private static final Twin NEW = twin(TopTurned::new);
    private static final Twin BUSY = twin(RefusalEdgesTest::busy);
    private static final Twin FULL = twin(RefusalEdgesTest::full);

    public static void main(String[] args) {
        letter();
        place();
        law();
        noSuchTurn();
        turnThatMayNotBe();
        far();
        worst();
        before();
        nextAndRule();
        row();
        path();
        blind();
        fewest();
        shuffled();
        sights();
        on();
        answersThatAreNoRefusals();
        manyRefusals();
        DUE.end();
    }

    private static Twin twin(Supplier<TopTurned> maker) {
        return new Twin(DUE, maker);
    }

    /** Something of each kind stands: an image, a turn behind it, a row, letters, refusals of each kind. */
    private static TopTurned busy() {
        TopTurned x = Due.with("p3+;p1-;p2+;m2;k1;b1;c23;s01;s20;");
        x.on();
        x.turn(0, 2);
        x.row(1);
        Due.letters(x, "c5");
        x.image();
        x.turn(0, 3);
        x.row(3);
        Due.letters(x, "7;b0;");
        x.may(0, 0);
        x.law(7);
        x.far(-2);
        x.far(99);
        return x;
    }

    /** No letter, no sight and no number of the row has room any more. */
    private static TopTurned full() {
        TopTurned x = Due.with("p3+;p1-;p2+;s01;s01;s01;s01;s01;s01;");
        x.image();
        Due.letters(x, "c12;".repeat(16));
        Due.rows(x, 1, 2, 3, 1, 2, 3, 1, 2);
        return x;
    }

    private static Twin withRow(String kitchen, int... numbers) {
        return twin(() -> {
            TopTurned x = Due.with(kitchen);
            Due.rows(x, numbers);
            x.image();
            return x;
        });
    }

    private static void letter() {
        for (int c : new int[] {-1, -2, LEAST}) {
            NEW.refuses("letter(" + c + ")", x -> x.letter(c), -4);
            BUSY.refuses("letter(" + c + ")", x -> x.letter(c), -4);
            FULL.refuses("full, and below: letter(" + c + ")", x -> x.letter(c), -4);
        }
        for (int c : new int[] {256, 257, 256 + 'p', GREATEST}) {
            NEW.refuses("letter(" + c + ")", x -> x.letter(c), -6);
            BUSY.refuses("letter(" + c + ")", x -> x.letter(c), -6);
            FULL.refuses("full, and above: letter(" + c + ")", x -> x.letter(c), -6);
        }
        for (int c : new int[] {0, 255, 'p', ';'}) {
            DUE.is("letter(" + c + ")", new TopTurned().letter(c), 1);
            FULL.refuses("64, too: letter(" + c + ")", x -> x.letter(c), -6);
        }
    }

    private static void place() {
        for (int place : new int[] {-1, LEAST, 3, GREATEST}) {
            for (int what : new int[] {0, 2, -1, 3}) {
                BUSY.refuses("place(" + place + ", " + what + ")", x -> x.place(place, what), -1);
            }
        }
        NEW.refuses("no plates: place(0, 0)", x -> x.place(0, 0), -1);
        NEW.refuses("no plates: place(0, 3)", x -> x.place(0, 3), -1);
        for (int what : new int[] {-1, LEAST, 3, GREATEST}) {
            BUSY.refuses("place(0, " + what + ")", x -> x.place(0, what), -2);
            BUSY.refuses("place(2, " + what + ")", x -> x.place(2, what), -2);
        }
        BUSY.onlyAnswers("the first place and what: place(0, 0)", x -> x.place(0, 0), 2);
        BUSY.onlyAnswers("the last place and what: place(2, 2)", x -> x.place(2, 2), 1);
    }

    private static void law() {
        for (int v : new int[] {-1, LEAST, 5, GREATEST}) {
            NEW.refuses("law(" + v + ")", x -> x.law(v), -2);
            BUSY.refuses("law(" + v + ")", x -> x.law(v), -2);
        }
        TopTurned x = new TopTurned();
        DUE.is("the last law: law(4)", x.law(4), 0);
        DUE.is("the first law: law(0)", x.law(0), 4);
    }

    private static void noSuchTurn() {
        int[][] none = {{0, 0}, {3, 3}, {1, 0}, {3, 2}, {-1, 0}, {-1, 3}, {0, 4}, {3, 4}, {0, -1}, {LEAST, 2},
            {0, GREATEST}, {LEAST, GREATEST}, {GREATEST, LEAST}};
        for (int[] t : none) {
            BUSY.refuses("may(" + t[0] + ", " + t[1] + ")", x -> x.may(t[0], t[1]), -1);
            BUSY.refuses("turn(" + t[0] + ", " + t[1] + ")", x -> x.turn(t[0], t[1]), -1);
        }
        NEW.refuses("no plates: may(0, 0)", x -> x.may(0, 0), -1);
        NEW.refuses("no plates: may(0, 1)", x -> x.may(0, 1), -1);
        NEW.refuses("no plates: turn(0, 0)", x -> x.turn(0, 0), -1);
        NEW.refuses("no plates: turn(0, 1)", x -> x.turn(0, 1), -1);
        BUSY.onlyAnswers("may(0, 3)", x -> x.may(0, 3), 1);
        BUSY.onlyAnswers("that it may not be is no refusal: may(2, 3)", x -> x.may(2, 3), 0);
    }

    /** By each law a turn that only just may not be, and one that only just may. */
    private static void turnThatMayNotBe() {
        String[] told = {"l0;", "l1;m1;", "l1;m2;", "l2;k0;", "l2;k1;", "l2;k2;", "l4;", "l4;", "l4;"};
        int[][] barred = {{1, 2}, {0, 2}, {0, 3}, {0, 1}, {0, 2}, {0, 3}, {0, 1}, {0, 3}, {2, 3}};
        int[][] lawful = {{0, 2}, {0, 1}, {0, 2}, {}, {0, 1}, {0, 2}, {0, 2}, {1, 3}, {1, 3}};
        for (int k = 0; k < told.length; k++) {
            String text = "p3+;p1-;p2+;" + told[k];
            int[] t = barred[k];
            Twin twin = withRow(text);
            twin.refuses(text + " turn(" + t[0] + ", " + t[1] + ")", x -> x.turn(t[0], t[1]), -3);
            twin.onlyAnswers(text + " may(" + t[0] + ", " + t[1] + ")", x -> x.may(t[0], t[1]), 0);
            if (lawful[k].length > 0) {
                DUE.is(text + " it may be", Due.with(text).turn(lawful[k][0], lawful[k][1]), 1);
            }
        }
    }

    private static void far() {
        for (int n : new int[] {-2, LEAST}) {
            NEW.refuses("far(" + n + ")", x -> x.far(n), -4);
            BUSY.refuses("far(" + n + ")", x -> x.far(n), -4);
        }
        for (int n : new int[] {21, GREATEST}) {
            NEW.refuses("far(" + n + ")", x -> x.far(n), -6);
            BUSY.refuses("far(" + n + ")", x -> x.far(n), -6);
        }
        BUSY.onlyAnswers("far(-1)", x -> x.far(-1), 0);
        BUSY.onlyAnswers("far(0)", x -> x.far(0), 1);
        BUSY.onlyAnswers("far(20)", x -> x.far(20), 0);
    }

    private static void worst() {
        for (int place : new int[] {-2, LEAST, 3, GREATEST}) {
            BUSY.refuses("worst(" + place + ")", x -> x.worst(place), -1);
        }
        for (int place : new int[] {-2, LEAST, 0, GREATEST}) {
            NEW.refuses("no plates, and no such place: worst(" + place + ")", x -> x.worst(place), -1);
        }
        NEW.refuses("no plates: worst(-1)", x -> x.worst(-1), -3);
        BUSY.onlyAnswers("worst(-1)", x -> x.worst(-1), 6);
        BUSY.onlyAnswers("the first place: worst(0)", x -> x.worst(0), 1);
        BUSY.onlyAnswers("the last place: worst(2)", x -> x.worst(2), 10);
    }

    private static void before() {
        for (int n : new int[] {-1, LEAST}) {
            NEW.refuses("before(" + n + ")", x -> x.before(n), -4);
            BUSY.refuses("before(" + n + ")", x -> x.before(n), -4);
        }
        for (int n : new int[] {5, GREATEST}) {
            NEW.refuses("before(" + n + ")", x -> x.before(n), -6);
            BUSY.refuses("before(" + n + ")", x -> x.before(n), -6);
        }
        BUSY.onlyAnswers("before(0)", x -> x.before(0), 1);
        NEW.onlyAnswers("before(4)", x -> x.before(4), 0);
    }

    private static void nextAndRule() {
        for (int kind : new int[] {-1, LEAST, 5, GREATEST}) {
            NEW.refuses("next(" + kind + ")", x -> x.next(kind), -2);
            BUSY.refuses("next(" + kind + ")", x -> x.next(kind), -2);
            NEW.refuses("rule(" + kind + ")", x -> x.rule(kind), -2);
            BUSY.refuses("rule(" + kind + ")", x -> x.rule(kind), -2);
        }
        NEW.onlyAnswers("next(0)", x -> x.next(0), -9);
        NEW.onlyAnswers("next(4)", x -> x.next(4), -9);
        NEW.onlyAnswers("rule(0)", x -> x.rule(0), 0);
        NEW.onlyAnswers("rule(4)", x -> x.rule(4), 0);
    }

    private static void row() {
        for (int v : new int[] {-1, LEAST}) {
            NEW.refuses("row(" + v + ")", x -> x.row(v), -4);
            BUSY.refuses("row(" + v + ")", x -> x.row(v), -4);
            FULL.refuses("full, and below: row(" + v + ")", x -> x.row(v), -4);
        }
        for (int v : new int[] {100, GREATEST}) {
            NEW.refuses("row(" + v + ")", x -> x.row(v), -6);
            BUSY.refuses("row(" + v + ")", x -> x.row(v), -6);
            FULL.refuses("full, and above: row(" + v + ")", x -> x.row(v), -6);
        }
        for (int v : new int[] {0, 99}) {
            DUE.is("row(" + v + ")", new TopTurned().row(v), 1);
            FULL.refuses("8, too: row(" + v + ")", x -> x.row(v), -6);
        }
    }

    private static void path() {
        int[][] rows = {{}, {0}, {0, 1}, {0, 1, 2, 2}, {0, 1, 1}, {0, 1, 0}, {10, 1, 0}, {0, 1, 11}, {0, 1, 3}, {0, 1, 13}, {0, 1, 22}, {20, 1, 2},
            {0, 1, 99}, {10, 10, 10}, {0, 1, 2, 0, 1, 2, 0, 1}};
        for (int[] numbers : rows) {
            withRow("p3+;p1-;p2+;", numbers).refuses(Arrays.toString(numbers) + " path()", TopTurned::path, -3);
        }
        twin(() -> {
            TopTurned x = new TopTurned();
            x.row(0);
            return x;
        }).refuses("no plates, one told: path()", TopTurned::path, -3);
        BUSY.refuses("the row has two, the plates are three: path()", TopTurned::path, -3);
        FULL.refuses("the row has eight, the plates are three: path()", TopTurned::path, -3);
        NEW.onlyAnswers("no plates, none told: path()", TopTurned::path, 0);
    }

    private static void blind() {
        int[][] rows = {{0}, {4}, {9}, {10}, {11}, {14}, {20}, {22}, {33}, {34}, {99}, {3, 0}, {0, 3}, {1, 2, 3, 1, 2, 3, 1, 30}};
        for (int law = 0; law < 5; law++) {
            for (int[] numbers : rows) {
                String text = "p3+;p1-;p2+;l" + law + ";";
                withRow(text, numbers).refuses(text + Arrays.toString(numbers) + " blind()", TopTurned::blind, -3);
            }
        }
        twin(() -> {
            TopTurned x = new TopTurned();
            x.row(1);
            return x;
        }).refuses("no plates, one told: blind()", TopTurned::blind, -3);
        NEW.onlyAnswers("no plates, none told: blind()", TopTurned::blind, 1);
    }

    private static void fewest() {
        for (int i : new int[] {-2, LEAST}) {
            NEW.refuses("fewest(" + i + ")", x -> x.fewest(i), -4);
            BUSY.refuses("fewest(" + i + ")", x -> x.fewest(i), -4);
        }
        for (int i : new int[] {0, 3, 8, GREATEST}) {
            NEW.onlyAnswers("none such is no refusal: fewest(" + i + ")", x -> x.fewest(i), -9);
        }
        NEW.onlyAnswers("fewest(-1)", x -> x.fewest(-1), 0);
    }

    private static void shuffled() {
        for (int n : new int[] {-1, LEAST}) {
            NEW.refuses("shuffled(" + n + ", 0)", x -> x.shuffled(n, 0), -4);
            BUSY.refuses("shuffled(" + n + ", 7)", x -> x.shuffled(n, 7), -4);
        }
        for (int n : new int[] {31, GREATEST}) {
            NEW.refuses("shuffled(" + n + ", 0)", x -> x.shuffled(n, 0), -6);
            BUSY.refuses("shuffled(" + n + ", -7)", x -> x.shuffled(n, -7), -6);
        }
        for (int z : new int[] {LEAST, -1, 0, GREATEST}) {
            NEW.onlyAnswers("any seed: shuffled(30, " + z + ")", x -> x.shuffled(30, z), 0);
            BUSY.onlyAnswers("any seed: shuffled(0, " + z + ")", x -> x.shuffled(0, z), 3);
        }
    }

    private static void sights() {
        for (int i : new int[] {-1, LEAST, 2, GREATEST}) {
            for (int what : new int[] {0, 1, -1, 2}) {
                BUSY.refuses("sights(" + i + ", " + what + ")", x -> x.sights(i, what), -1);
            }
        }
        NEW.refuses("no sights: sights(0, 0)", x -> x.sights(0, 0), -1);
        NEW.refuses("no sights: sights(0, 2)", x -> x.sights(0, 2), -1);
        FULL.refuses("all six: sights(6, 0)", x -> x.sights(6, 0), -1);
        for (int what : new int[] {-1, LEAST, 2, GREATEST}) {
            BUSY.refuses("sights(0, " + what + ")", x -> x.sights(0, what), -2);
            BUSY.refuses("sights(1, " + what + ")", x -> x.sights(1, what), -2);
        }
        BUSY.onlyAnswers("the first: sights(0, 0)", x -> x.sights(0, 0), 0);
        BUSY.onlyAnswers("the last: sights(1, 1)", x -> x.sights(1, 1), 0);
        FULL.onlyAnswers("the sixth: sights(5, 1)", x -> x.sights(5, 1), 1);
    }

    private static void on() {
        NEW.refuses("no image: on()", TopTurned::on, -3);
        twin(() -> Due.with("p3+;p1-;p2+;c23;s01;")).refuses("no image of plates: on()", TopTurned::on, -3);
        DUE.is("an image of nothing is one: image()", imageOfNothing().on(), 0);
    }

    private static TopTurned imageOfNothing() {
        TopTurned x = new TopTurned();
        x.image();
        return x;
    }

    /** What they look at is in mind alone; and -9 is no refusal, nor is 0. */
    private static void answersThatAreNoRefusals() {
        for (int what : new int[] {-1, 10, 17, LEAST, GREATEST}) {
            BUSY.onlyAnswers("count(" + what + ")", x -> x.count(what), -9);
        }
        BUSY.onlyAnswers("inOrder()", TopTurned::inOrder, 0);
        BUSY.onlyAnswers("gaps()", TopTurned::gaps, 3);
        BUSY.onlyAnswers("least()", TopTurned::least, 3);
        BUSY.onlyAnswers("match()", TopTurned::match, 2);
        BUSY.onlyAnswers("before(4)", x -> x.before(4), 25);
        BUSY.onlyAnswers("fewest(-1)", x -> x.fewest(-1), 3);
        String[] never = {"p3+;p1-;p2+;l1;m1;b1;c23;", "p3+;p1-;p2+;l2;k0;"};
        for (String text : never) {
            Twin twin = withRow(text, 1);
            twin.onlyAnswers(text + " least()", TopTurned::least, -9);
            twin.onlyAnswers(text + " cheapest()", TopTurned::cheapest, -9);
            twin.onlyAnswers(text + " ways()", TopTurned::ways, 0);
            twin.onlyAnswers(text + " next(2)", x -> x.next(2), -9);
            twin.onlyAnswers(text + " next(3)", x -> x.next(3), -9);
            twin.onlyAnswers(text + " rule(2)", x -> x.rule(2), -9);
            twin.onlyAnswers(text + " shuffled(30, 1)", x -> x.shuffled(30, 1), -9);
            twin.onlyAnswers(text + " fewest(-1)", x -> x.fewest(-1), -9);
        }
    }

    /** 512 calls in all: each refused one is counted, to the last. */
    private static void manyRefusals() {
        TopTurned x = new TopTurned();
        for (int k = 0; k < 511; k++) {
            x.letter(-1);
        }
        DUE.is("511 refused, the 512th call: count(14)", x.count(14), 511);
    }
}
