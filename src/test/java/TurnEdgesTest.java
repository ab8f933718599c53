/** The edges of the first text block: THE HEAP, TURNS, LAWS, COST, IN ORDER, GAPS; promises 4 to 9 and 28. */
public final class TurnEdgesTest {
    private static final Due DUE = new Due("TurnEdgesTest");
    private static final String FIVE = "p1+;p2-;p3+;p4-;p5+;";

    public static void main(String[] args) {
        heapAtFirst();
        whichAreTurns();
        whatATurnDoes();
        turnedBack();
        tops();
        limited();
        keeping();
        between();
        even();
        ordered();
        paidByTheLowest();
        paidSoFar();
        inOrderBySizes();
        inOrderBySides();
        gapsOfFew();
        gapsBySizesThatThereAre();
        gapsOnTheBoard();
        gapsBySides();
        DUE.end();
    }

    private static TopTurned withPlates(int many, String more) {
        return many == 0 && more.isEmpty() ? new TopTurned() : Due.with(FIVE.substring(0, 4 * many) + more);
    }

    /** "THE HEAP is an ORDER of them, from the top on (as they came at first)". */
    private static void heapAtFirst() {
        DUE.same("no plates", Due.heap(new TopTurned()), "");
        DUE.same("one", Due.heap(Due.with("p1-;")), "10");
        DUE.same("five", Due.heap(Due.with("p9+;p1-;p5+;p1-;p9-;")), "0 11 2 13 14");
    }

    /** "A TURN (i, j), 0 .. PLATES, i less than j". */
    private static void whichAreTurns() {
        for (int plates = 0; plates <= 5; plates++) {
            TopTurned x = withPlates(plates, "l3;");
            int many = 0;
            for (int i = -2; i <= plates + 2; i++) {
                for (int j = -2; j <= plates + 2; j++) {
                    boolean is = i >= 0 && i < j && j <= plates;
                    many += is ? 1 : 0;
                    DUE.is(plates + " plates: may(" + i + ", " + j + ")", x.may(i, j), is ? 1 : -1);
                }
            }
            DUE.is(plates + " plates: count(9)", x.count(9), many);
        }
    }

    /** "those in places i .. j less 1 lie the other way round, each with the other side up". */
    private static void whatATurnDoes() {
        for (int plates = 1; plates <= 5; plates++) {
            for (int i = 0; i < plates; i++) {
                for (int j = i + 1; j <= plates; j++) {
                    TopTurned x = withPlates(plates, "l3;");
                    x.turn(i, j);
                    StringBuilder want = new StringBuilder();
                    for (int place = 0; place < plates; place++) {
                        boolean lifted = place >= i && place < j;
                        int plate = lifted ? i + j - 1 - place : place;
                        boolean burnt = plate % 2 == 1 ^ lifted;
                        want.append(place == 0 ? "" : " ").append(burnt ? plate + 10 : plate);
                    }
                    DUE.same(plates + " plates, turn(" + i + ", " + j + ")", Due.heap(x), want.toString());
                }
            }
        }
    }

    private static void turnedBack() {
        for (int i = 0; i < 5; i++) {
            for (int j = i + 1; j <= 5; j++) {
                TopTurned x = withPlates(5, "l3;");
                x.turn(i, j);
                x.turn(i, j);
                DUE.same("turn(" + i + ", " + j + ") twice", Due.heap(x), "0 11 2 13 4");
            }
        }
    }

    /** "0 TOPS under LAW: i is 0." */
    private static void tops() {
        for (int plates = 0; plates <= 5; plates++) {
            TopTurned x = withPlates(plates, "l0;");
            for (int i = 0; i < plates; i++) {
                for (int j = i + 1; j <= plates; j++) {
                    DUE.is("tops: may(" + i + ", " + j + ")", x.may(i, j), i == 0 ? 1 : 0);
                }
            }
            DUE.is("tops: count(9)", x.count(9), plates);
        }
    }

    /** "1 LIMITED under TOPS: and j is LIMIT at most." LIMIT may be more than there are PLATES. */
    private static void limited() {
        for (int plates = 0; plates <= 5; plates++) {
            for (int limit = 1; limit <= 5; limit++) {
                TopTurned x = withPlates(plates, "l1;m" + limit + ";");
                for (int i = 0; i < plates; i++) {
                    for (int j = i + 1; j <= plates; j++) {
                        int want = i == 0 && j <= limit ? 1 : 0;
                        DUE.is("m" + limit + ": may(" + i + ", " + j + ")", x.may(i, j), want);
                    }
                }
                DUE.is(plates + " plates, m" + limit + ": count(9)", x.count(9), Math.min(plates, limit));
            }
        }
        DUE.is("another law has no limit", Due.with("p1+;p2+;m1;").may(0, 2), 1);
    }

    /** "2 KEEPING under TOPS: and KEPT is not among them": the plate wherever it lies, not the place. */
    private static void keeping() {
        for (int plates = 1; plates <= 5; plates++) {
            for (int kept = 0; kept < plates; kept++) {
                TopTurned x = withPlates(plates, "k" + kept + ";l2;");
                keepingAt(x, plates, kept);
                x.law(0);
                x.turn(0, plates);
                x.law(2);
                keepingAt(x, plates, plates - 1 - kept);
            }
            TopTurned none = withPlates(plates, "l2;");
            DUE.is("k9: all tops", none.count(9), plates);
            DUE.is("k9: not between", none.may(plates - 1, plates), plates == 1 ? 1 : 0);
        }
        DUE.is("another law keeps none", Due.with("p1+;p2+;k0;").may(0, 2), 1);
        DUE.is("no plates", Due.with("l2;").count(9), 0);
    }

    private static void keepingAt(TopTurned x, int plates, int place) {
        for (int i = 0; i < plates; i++) {
            for (int j = i + 1; j <= plates; j++) {
                int want = i == 0 && j <= place ? 1 : 0;
                DUE.is(plates + " plates, kept in " + place + ": may(" + i + ", " + j + ")", x.may(i, j), want);
            }
        }
        DUE.is(plates + " plates, kept in " + place + ": count(9)", x.count(9), place);
    }

    /** "3 BETWEEN under LAW: always." */
    private static void between() {
        int[] many = {0, 1, 3, 6, 10, 15};
        for (int plates = 0; plates <= 5; plates++) {
            DUE.is(plates + " plates, between: count(9)", withPlates(plates, "l3;m1;").count(9), many[plates]);
        }
        DUE.is("the kept one too", Due.with("p1+;p2+;k0;l3;").count(9), 3);
    }

    /** "4 EVEN under BETWEEN: so many are turned that 2 divides it." */
    private static void even() {
        int[] many = {0, 0, 1, 2, 4, 6};
        for (int plates = 0; plates <= 5; plates++) {
            TopTurned x = withPlates(plates, "l4;m1;");
            for (int i = 0; i < plates; i++) {
                for (int j = i + 1; j <= plates; j++) {
                    int want = j - i == 2 || j - i == 4 ? 1 : 0;
                    DUE.is("even: may(" + i + ", " + j + ")", x.may(i, j), want);
                }
            }
            DUE.is(plates + " plates, even: count(9)", x.count(9), many[plates]);
        }
        DUE.is("the kept one too", Due.with("p1+;p2+;k0;l4;").count(9), 1);
    }

    /** "TURNS are ordered by i, then j; told as 10 times i and j." */
    private static void ordered() {
        DUE.is("the first: next(0)", Due.with("p2+;p1+;l3;").next(0), 1);
        DUE.is("the first that may be: next(0)", Due.with("p2+;p1+;l4;").next(0), 2);
        DUE.is("the last but one: next(2)", Due.with("p1+;p2+;p4+;p3+;l3;").next(2), 24);
        DUE.is("the last: next(2)", Due.with("p1+;p2+;p3+;p4+;p5-;l3;b1;").next(2), 45);
        DUE.is("i before j: next(2)", Due.with("p1+;p3+;p2+;p4+;l3;").next(2), 13);
    }

    /** "COST: that of a turn, and j times that of a PLATE." */
    private static void paidByTheLowest() {
        for (int i = 0; i < 5; i++) {
            for (int j = i + 1; j <= 5; j++) {
                DUE.is("c00: turn(" + i + ", " + j + ")", withPlates(5, "l3;c00;").turn(i, j), 0);
                DUE.is("c10: turn(" + i + ", " + j + ")", withPlates(5, "l3;").turn(i, j), 1);
                DUE.is("c01: turn(" + i + ", " + j + ")", withPlates(5, "l3;c01;").turn(i, j), j);
                DUE.is("c99: turn(" + i + ", " + j + ")", withPlates(5, "l3;c99;").turn(i, j), 9 + 9 * j);
            }
        }
    }

    /** "COST so far": the dearest turns for all of the 512 calls. */
    private static void paidSoFar() {
        TopTurned x = new TopTurned();
        Due.tell(x, FIVE + "c99;");
        for (int k = 0; k < 512 - 25 - 1; k++) {
            x.turn(0, 5);
        }
        DUE.is("the 512th call: count(6)", x.count(6), 486 * 54);
        TopTurned y = Due.with("p1+;p2+;c99;");
        y.turn(0, 2);
        DUE.is("a refused one costs nothing", y.turn(1, 2), -3);
        DUE.is("nor does one that is none", y.turn(2, 2), -1);
        Due.tell(y, "c11;");
        DUE.is("another cost later changes nothing: count(6)", y.count(6), 27);
        y.turn(0, 1);
        DUE.is("but what is paid from then on: count(6)", y.count(6), 29);
    }

    /** "IN ORDER: no PLATE lies on one of lesser SIZE". */
    private static void inOrderBySizes() {
        DUE.is("no plates", new TopTurned().inOrder(), 1);
        String[] texts = {"p1+;", "p9-;", "p1+;p1+;", "p1+;p2+;", "p2+;p1+;", "p9+;p9+;p9-;p9+;p9+;", "p1+;p1+;p1+;p1+;p2+;",
            "p1+;p1+;p1+;p2+;p1+;", "p2+;p1+;p2+;p2+;p2+;", "p1+;p3+;p2+;p3+;p3+;", "p1+;p3+;p5+;p7+;p9+;", "p9+;p1+;"};
        int[] want = {1, 1, 1, 1, 0, 1, 1, 0, 0, 0, 1, 0};
        for (int k = 0; k < texts.length; k++) {
            DUE.is(texts[k] + " inOrder()", Due.with(texts[k]).inOrder(), want[k]);
            DUE.is(texts[k] + " least() is 0 just then", Due.with(texts[k]).least() == 0 ? 1 : 0, want[k]);
        }
    }

    /** "and, if BURNT ones matter, all have the clean side up". */
    private static void inOrderBySides() {
        DUE.is("no plates", Due.with("b1;").inOrder(), 1);
        for (int burnt = -1; burnt < 5; burnt++) {
            StringBuilder text = new StringBuilder();
            for (int plate = 0; plate < 5; plate++) {
                text.append('p').append(plate + 1).append(plate == burnt ? "-;" : "+;");
            }
            DUE.is(text + " inOrder()", Due.with(text + "b0;").inOrder(), 1);
            DUE.is(text + "b1; inOrder()", Due.with(text + "b1;").inOrder(), burnt < 0 ? 1 : 0);
        }
        DUE.is("clean, but on a lesser one", Due.with("p2+;p1+;b1;").inOrder(), 0);
        TopTurned x = Due.with("p1-;b1;");
        x.turn(0, 1);
        DUE.is("turned clean", x.inOrder(), 1);
    }

    /** "GAPS: neighbours whose SIZES are neither alike nor next to each other". */
    private static void gapsOfFew() {
        DUE.is("no plates: gaps()", new TopTurned().gaps(), 0);
        DUE.is("no plates, burnt ones matter: gaps()", Due.with("b1;").gaps(), 0);
        DUE.is("one: gaps()", Due.with("p1+;").gaps(), 0);
        DUE.is("one, of the greatest size: gaps()", Due.with("p9+;").gaps(), 0);
        DUE.is("alike: gaps()", Due.with("p3+;p3+;p3+;p3+;p3+;").gaps(), 0);
        DUE.is("all do not fit: gaps()", Due.with("p1+;p3+;p5+;p2+;p4+;").gaps(), 5);
    }

    /** "among all SIZES that there are": what no plate has is no size between. */
    private static void gapsBySizesThatThereAre() {
        DUE.is("1 9: gaps()", Due.with("p1+;p9+;").gaps(), 0);
        DUE.is("9 1 on the board: gaps()", Due.with("p9+;p1+;").gaps(), 1);
        TopTurned x = Due.with("p1+;p5+;");
        DUE.is("1 5: gaps()", x.gaps(), 0);
        Due.tell(x, "p3+;");
        DUE.is("3 is between them now: gaps()", x.gaps(), 2);
        x.turn(0, 2);
        DUE.is("5 1 3: 5 and 1, 3 and the board: gaps()", x.gaps(), 2);
        Due.tell(x, "p9+;");
        DUE.is("5 1 3 9: 5 and 1, 3 and 9: gaps()", x.gaps(), 2);
    }

    /** "(the board under the last is one, next to the greatest SIZE)". */
    private static void gapsOnTheBoard() {
        DUE.is("the greatest lies lowest: gaps()", Due.with("p1+;p2+;p3+;").gaps(), 0);
        DUE.is("the next lies lowest: gaps()", Due.with("p1+;p3+;p2+;").gaps(), 2);
        DUE.is("the least lies lowest: gaps()", Due.with("p3+;p2+;p1+;").gaps(), 1);
        DUE.is("one of two greatest lies lowest: gaps()", Due.with("p3+;p2+;p3+;").gaps(), 0);
        DUE.is("the board is not above the top one: gaps()", Due.with("p3+;p2+;p2+;p3+;").gaps(), 0);
    }

    /** "if BURNT ones matter, also those of which one has another side up than the other (the board: clean)". */
    private static void gapsBySides() {
        String[] texts = {"p1-;", "p1-;p2-;", "p1-;p2+;", "p1+;p2-;", "p1+;p3-;p2+;", "p1-;p2-;p3-;p4-;p5-;",
            "p1+;p2-;p3+;p4-;p5+;", "p1-;p2+;p3-;p4+;p5-;", "p4-;p4+;", "p4+;p4-;"};
        int[] byTurns = {1, 1, 1, 2, 3, 1, 4, 5, 1, 2};
        int[] sidesAside = {0, 0, 0, 0, 2, 0, 0, 0, 0, 0};
        for (int k = 0; k < texts.length; k++) {
            DUE.is(texts[k] + "b1; gaps()", Due.with(texts[k] + "b1;").gaps(), byTurns[k]);
            DUE.is(texts[k] + "b0; gaps()", Due.with(texts[k] + "b0;").gaps(), sidesAside[k]);
        }
    }
}
