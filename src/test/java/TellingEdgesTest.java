/** The edges of what is told in letters: "Terms" up to the first text block, and promises 1 to 3. */
public final class TellingEdgesTest {
    private static final Due DUE = new Due("TellingEdgesTest");
    private static final String FIVE = "p1+;p2+;p3+;p4+;p5+;";
    private static final String[] EACH_KIND = {"p1+;", "p9-;", "l0;", "m5;", "k0;", "b1;", "c00;", "s01;"};

    public static void main(String[] args) {
        noPlatesAtFirst();
        sixtyFourLetters();
        eachStatementEnds();
        eachLetterOfAStatement();
        somethingLacks();
        atLeastOneStatement();
        kindOneGoesFirst();
        firstStatementThatIsWrong();
        sizes();
        sides();
        platesAreFiveAtMost();
        laws();
        limits();
        keptPlates();
        burntSides();
        costs();
        sightsOfPlates();
        sightsAreSixAtMost();
        allOfItComes();
        nothingComes();
        lettersAreNoMore();
        DUE.end();
    }

    private static String plates(int many) {
        return FIVE.substring(0, 4 * many);
    }

    private static TopTurned withPlates(int many) {
        return many == 0 ? new TopTurned() : Due.with(plates(many));
    }

    /** "TopTurned(): No PLATES." and "(5 at first)", "(.. none, as at first)", "(not at first)", "(1 and 0 at first)". */
    private static void noPlatesAtFirst() {
        TopTurned x = new TopTurned();
        DUE.is("plates at first", x.count(0), 0);
        DUE.is("sights at first", x.count(1), 0);
        DUE.is("LAW at first", x.count(2), 0);
        DUE.is("LIMIT at first", x.count(3), 5);
        DUE.is("KEPT at first", x.count(4), 9);
        DUE.is("BURNT ones matter at first", x.count(5), 0);
        DUE.is("paid at first", x.count(6), 0);
        Due.tell(x, FIVE);
        DUE.is("COST at first, of one", x.turn(0, 1), 1);
        DUE.is("COST at first, of five", x.turn(0, 5), 1);
    }

    /** "A KITCHEN is told in letters, one by one (64 at most)". */
    private static void sixtyFourLetters() {
        DUE.is("63 letters", Due.tell(new TopTurned(), "l1;".repeat(21)), 21);
        DUE.is("64 letters", Due.tell(new TopTurned(), "l1;".repeat(20) + "c12;"), 21);
        TopTurned x = new TopTurned();
        for (int k = 1; k <= 64; k++) {
            DUE.is("letter " + k, x.letter("l3;c12;l3;m4;p5+;".charAt((k - 1) % 16)), k);
        }
        DUE.is("letter 65", x.letter(';'), -6);
        DUE.is("still 64", x.count(8), 64);
        DUE.is("and they fault where they did without the 65th", x.kitchen(), -1000 - 16);
        DUE.is("then there is room again", x.letter('p'), 1);
    }

    /** "STATEMENTS, each with ";" behind". */
    private static void eachStatementEnds() {
        String[] texts = {";", "l1", "l1m2;", "l1;m2", "l1;;", "l1:", "l1,", "l1 ;", " l1;", "l1; ", "p1+", "p1+p2+;", "c12", "c12,", "s01"};
        int[] places = {0, 2, 2, 5, 3, 2, 2, 2, 0, 3, 3, 3, 3, 3, 3};
        for (int k = 0; k < texts.length; k++) {
            TopTurned x = Due.with("p1+;p2+;");
            DUE.is("\"" + texts[k] + "\"", Due.tell(x, texts[k]), -1000 - places[k]);
        }
    }

    /** "kind 1 the place of the first letter with which no KITCHEN can go on": each letter but those of the statement. */
    private static void eachLetterOfAStatement() {
        for (String good : EACH_KIND) {
            for (int at = 0; at < good.length(); at++) {
                String fitting = fittingAt(good, at);
                for (int c = 0; c < 256; c++) {
                    if (fitting.indexOf(c) < 0) {
                        String text = good.substring(0, at) + (char) c + good.substring(at + 1);
                        TopTurned x = Due.with("p1+;p2+;");
                        DUE.is("letter " + c + " in place " + at + " of " + good, Due.tell(x, text), -1000 - at);
                        DUE.is("behind l1;", Due.tell(x, "l1;" + text), -1003 - at);
                    }
                }
            }
        }
    }

    /** The place behind a head of another kind is looked at by that kind, so any head may stand in place 0. */
    private static String fittingAt(String good, int at) {
        if (at == 0) {
            return "plmkbcs";
        }
        if (at == good.length() - 1) {
            return ";";
        }
        return at == 2 && good.charAt(0) == 'p' ? "+-" : "0123456789";
    }

    /** "(the end, if something lacks)". */
    private static void somethingLacks() {
        for (String good : EACH_KIND) {
            for (int many = 1; many < good.length(); many++) {
                String cut = good.substring(0, many);
                DUE.is("\"" + cut + "\"", Due.tell(new TopTurned(), cut), -1000 - many);
                DUE.is("\"c12;" + cut + "\"", Due.tell(new TopTurned(), "c12;" + cut), -1004 - many);
            }
        }
        DUE.is("the end of 64 letters", Due.tell(new TopTurned(), "c12;".repeat(15) + "m1;k"), -1064);
        DUE.is("the last of 64 letters", Due.tell(new TopTurned(), "c12;".repeat(15) + "c12,"), -1063);
    }

    /** "At least one STATEMENT." */
    private static void atLeastOneStatement() {
        TopTurned x = new TopTurned();
        DUE.is("no letters", x.kitchen(), -1000);
        DUE.is("one statement", Due.tell(x, "b0;"), 1);
        DUE.is("no letters behind a kitchen", x.kitchen(), -1000);
        Due.tell(x, "x");
        DUE.is("no letters behind a fault", x.kitchen(), -1000);
        DUE.is("no refusals", x.count(11) + x.count(12) + x.count(13) + x.count(14) + x.count(16), 0);
    }

    /** "else kind 2": only where there is no fault of kind 1, be it the later one. */
    private static void kindOneGoesFirst() {
        String[] texts = {"p0+;x", "p0+", "l9", "l9;;", "k0;p1", "s00;s0;", "m0;m6;m", "b2;b", "p0*;"};
        int[] places = {4, 3, 2, 3, 5, 6, 7, 4, 2};
        for (int k = 0; k < texts.length; k++) {
            DUE.is("\"" + texts[k] + "\"", Due.tell(new TopTurned(), texts[k]), -1000 - places[k]);
        }
    }

    /** "the place of the first letter of the first STATEMENT that is not as it must be". */
    private static void firstStatementThatIsWrong() {
        String[] texts = {"l9;", "l1;l9;", "l1;l9;m9;", "m9;l9;", "c12;l9;", "p1+;p0-;k7;", "l9;l1;", "b0;b2;b0;",
            "c12;c12;c12;c12;c12;c12;c12;c12;c12;c12;c12;c12;c12;c12;c12;m0;"};
        int[] places = {0, 3, 3, 0, 4, 4, 0, 3, 60};
        for (int k = 0; k < texts.length; k++) {
            DUE.is("\"" + texts[k] + "\"", Due.tell(new TopTurned(), texts[k]), -2000 - places[k]);
        }
    }

    /** ""p" SIZE (a digit, 1 .. 9)". */
    private static void sizes() {
        for (int size = 0; size <= 9; size++) {
            TopTurned x = new TopTurned();
            DUE.is("p" + size + "+;", Due.tell(x, "p" + size + "+;"), size == 0 ? -2000 : 1);
            DUE.is("p" + size + "+; count(0)", x.count(0), size == 0 ? 0 : 1);
            DUE.is("p" + size + "+; place(0, 1)", x.place(0, 1), size == 0 ? -1 : size);
        }
    }

    /** ""+" (clean side up) or "-" (burnt side up)". */
    private static void sides() {
        TopTurned x = Due.with("p1+;p1-;");
        DUE.is("clean: place(0, 2)", x.place(0, 2), 0);
        DUE.is("burnt: place(1, 2)", x.place(1, 2), 1);
        DUE.is("the sign between them", Due.tell(x, "p1,;"), -1002);
        DUE.is("the sign above", Due.tell(x, "p1*;"), -1002);
        DUE.is("the sign below", Due.tell(x, "p1.;"), -1002);
    }

    /** "a PLATE more, under the others (5 at most)". */
    private static void platesAreFiveAtMost() {
        for (int had = 0; had <= 5; had++) {
            for (int more = 1; more <= 6; more++) {
                TopTurned x = withPlates(had);
                boolean room = had + more <= 5;
                String name = had + " plates and " + more + " more";
                DUE.is(name, Due.tell(x, "p7-;".repeat(more)), room ? more : -2000 - 4 * (5 - had));
                DUE.is(name + ": count(0)", x.count(0), room ? had + more : had);
                DUE.is(name + ": the lowest", x.place(x.count(0) - 1, 1), room ? 7 : had == 0 ? -1 : had);
                DUE.is(name + ": the top one", x.place(0, 1), had > 0 ? 1 : room ? 7 : -1);
            }
        }
        TopTurned x = Due.with("p1+;p2+;");
        x.turn(0, 2);
        Due.tell(x, "p3-;");
        DUE.same("under those that are turned", Due.heap(x), "11 10 12");
    }

    /** ""l" LAW (a digit, 0 .. 4)". */
    private static void laws() {
        for (int v = 0; v <= 9; v++) {
            TopTurned x = Due.with("l3;");
            DUE.is("l" + v + ";", Due.tell(x, "l" + v + ";"), v <= 4 ? 1 : -2000);
            DUE.is("l" + v + "; count(2)", x.count(2), v <= 4 ? v : 3);
        }
    }

    /** ""m" LIMIT (a digit, 1 .. 5; 5 at first)": it need not be as small as the heap. */
    private static void limits() {
        for (int v = 0; v <= 9; v++) {
            TopTurned x = Due.with("p1+;p2+;m2;");
            boolean fits = v >= 1 && v <= 5;
            DUE.is("m" + v + ";", Due.tell(x, "m" + v + ";"), fits ? 1 : -2000);
            DUE.is("m" + v + "; count(3)", x.count(3), fits ? v : 2);
        }
    }

    /** ""k" KEPT (a digit: a PLATE by its number, that is not to be turned; 9: none, as at first)". */
    private static void keptPlates() {
        for (int plates = 0; plates <= 5; plates++) {
            for (int v = 0; v <= 9; v++) {
                TopTurned x = withPlates(plates);
                boolean fits = v < plates || v == 9;
                String name = plates + " plates, k" + v + ";";
                DUE.is(name, Due.tell(x, "k" + v + ";"), fits ? 1 : -2000);
                DUE.is(name + " count(4)", x.count(4), fits ? v : 9);
            }
        }
        DUE.is("\"a PLATE that is not there ahead of it\": k", Due.tell(new TopTurned(), "k0;p1+;"), -2000);
        DUE.is("a plate just ahead of it", Due.tell(new TopTurned(), "p1+;k0;"), 2);
        DUE.is("none kept any more", Due.tell(new TopTurned(), "p1+;k0;k9;"), 3);
    }

    /** ""b" 0 or 1: whether BURNT sides matter (not at first)". */
    private static void burntSides() {
        for (int v = 0; v <= 9; v++) {
            for (int was = 0; was <= 1; was++) {
                TopTurned x = Due.with("p1-;b" + was + ";");
                DUE.is("b" + v + ";", Due.tell(x, "b" + v + ";"), v <= 1 ? 1 : -2000);
                int then = v <= 1 ? v : was;
                DUE.is("b" + was + ";b" + v + "; count(5)", x.count(5), then);
                DUE.is("b" + was + ";b" + v + "; inOrder()", x.inOrder(), 1 - then);
            }
        }
    }

    /** ""c" two digits: COST of a turn and of each PLATE that is lifted": all of them fit. */
    private static void costs() {
        for (int turn = 0; turn <= 9; turn++) {
            for (int plate = 0; plate <= 9; plate++) {
                TopTurned x = Due.with(FIVE);
                String text = "c" + turn + plate + ";";
                DUE.is(text, Due.tell(x, text), 1);
                DUE.is(text + " turn(0, 1)", x.turn(0, 1), turn + plate);
                DUE.is(text + " turn(0, 5)", x.turn(0, 5), turn + 5 * plate);
                DUE.is(text + " count(6)", x.count(6), 2 * turn + 6 * plate);
            }
        }
    }

    /** ""s" two digits: a SIGHT more: a PLATE is above a PLATE", "a PLATE that is not there ahead of it, one twice". */
    private static void sightsOfPlates() {
        for (int plates = 0; plates <= 5; plates++) {
            for (int upper = 0; upper <= 9; upper++) {
                for (int lower = 0; lower <= 9; lower++) {
                    TopTurned x = withPlates(plates);
                    boolean fits = upper < plates && lower < plates && upper != lower;
                    String text = "s" + upper + lower + ";";
                    String name = plates + " plates, " + text;
                    DUE.is(name, Due.tell(x, text), fits ? 1 : -2000);
                    DUE.is(name + " count(1)", x.count(1), fits ? 1 : 0);
                    DUE.is(name + " the one above", x.sights(0, 0), fits ? upper : -1);
                    DUE.is(name + " the one below", x.sights(0, 1), fits ? lower : -1);
                }
            }
        }
        DUE.is("the lower one comes only behind it", Due.tell(new TopTurned(), "p1+;s01;p2+;"), -2004);
        DUE.is("the upper one comes only behind it", Due.tell(new TopTurned(), "p1+;s10;p2+;"), -2004);
        DUE.is("both are just ahead of it", Due.tell(new TopTurned(), "p1+;p2+;s10;"), 3);
    }

    /** "(6 at most; they need not lie so)". */
    private static void sightsAreSixAtMost() {
        for (int had = 0; had <= 6; had++) {
            for (int more = 1; more <= 7; more++) {
                TopTurned x = Due.with("p1+;p2+;" + "s01;".repeat(had));
                boolean room = had + more <= 6;
                String name = had + " sights and " + more + " more";
                DUE.is(name, Due.tell(x, "s10;".repeat(more)), room ? more : -2000 - 4 * (6 - had));
                DUE.is(name + ": count(1)", x.count(1), room ? had + more : had);
                DUE.is(name + ": behind the last", x.sights(x.count(1), 0), -1);
                DUE.is(name + ": the last", x.sights(x.count(1) - 1, 0), room ? 1 : had == 0 ? -1 : 0);
            }
        }
    }

    /** "Without FAULT all of it comes": the later of one kind counts, in its turn. */
    private static void allOfItComes() {
        TopTurned x = Due.with("l1;l4;m1;m3;p1+;k0;p2+;k1;b1;b0;c11;c09;s01;");
        int[] then = {2, 1, 4, 3, 1, 0, 0, 0, 0, 1};
        for (int what = 0; what < then.length; what++) {
            DUE.is("count(" + what + ")", x.count(what), then[what]);
        }
        DUE.is("the later cost", x.turn(0, 2), 18);
    }

    /** "with one nothing": neither what is ahead of the fault nor what is behind it, and nothing is counted. */
    private static void nothingComes() {
        String ahead = "p7-;l4;m1;k0;b1;c99;s01;";
        String[] faults = {"x", "l", "l5;", "p0+;", "m0;", "k5;", "b2;", "s00;", "s05;", "p1+;p1+;p1+;p1+;"};
        for (String fault : faults) {
            for (String text : new String[] {ahead + fault, fault, fault + ahead}) {
                Twin twin = new Twin(DUE, () -> {
                    TopTurned x = Due.with("p3+;p2-;p1+;s12;");
                    x.turn(0, 3);
                    x.row(2);
                    x.image();
                    return x;
                });
                twin.onlyAnswers("\"" + text + "\"", x -> Due.tell(x, text) < 0 ? -1 : 1, -1);
            }
        }
    }

    /** "The letters become a KITCHEN, and are no more". */
    private static void lettersAreNoMore() {
        String[] texts = {"l1;", "l1", "l9;", "x", "c12;".repeat(16), "p".repeat(64)};
        for (String text : texts) {
            TopTurned x = new TopTurned();
            Due.letters(x, text);
            DUE.is("\"" + text + "\" count(8)", x.count(8), text.length());
            x.kitchen();
            DUE.is("\"" + text + "\" behind it: count(8)", x.count(8), 0);
            DUE.is("\"" + text + "\" behind it: letter(112)", x.letter('p'), 1);
        }
    }
}
