/** What the tests share: answers that are due, and kitchens told in one text. */
final class Due {
    private final String about;
    private int wrong;

    Due(String about) {
        this.about = about;
    }

    void is(String call, int got, int want) {
        if (got != want) {
            wrong++;
            System.out.println(about + ": " + call + " answered " + got + ", due is " + want);
        }
    }

    void holds(String what, boolean so) {
        if (!so) {
            wrong++;
            System.out.println(about + ": not so: " + what);
        }
    }

    void same(String what, String got, String want) {
        if (!got.equals(want)) {
            wrong++;
            System.out.println(about + ": " + what + " is " + got + ", due is " + want);
        }
    }

    void end() {
        if (wrong != 0) {
            System.out.println(about + ": " + wrong + " answers are not as due");
            System.exit(1);
        }
    }

    static void letters(TopTurned x, String text) {
        for (int k = 0; k < text.length(); k++) {
            x.letter(text.charAt(k));
        }
    }

    static int tell(TopTurned x, String text) {
        letters(x, text);
        return x.kitchen();
    }

    static TopTurned with(String text) {
        TopTurned x = new TopTurned();
        int answer = tell(x, text);
        if (answer < 0) {
            throw new IllegalArgumentException(text + " answered " + answer);
        }
        return x;
    }

    static void rows(TopTurned x, int... numbers) {
        for (int v : numbers) {
            x.row(v);
        }
    }

    /** Turns the heap, whatever the law, till it lies so: codes from the top on. Two calls and ten turns at most. */
    static void arrange(TopTurned x, int... codes) {
        int law = x.law(3);
        for (int place = 0; place < codes.length; place++) {
            int at = place;
            while (x.place(at, 0) != codes[place] % 10) {
                at++;
            }
            if (at > place) {
                x.turn(place, at + 1);
            }
            if (x.place(place, 2) != codes[place] / 10) {
                x.turn(place, place + 1);
            }
        }
        x.law(law);
    }

    /** The heap as it lies: codes from the top on, joined by blanks. */
    static String heap(TopTurned x) {
        StringBuilder text = new StringBuilder();
        for (int place = 0; place < x.count(0); place++) {
            text.append(place == 0 ? "" : " ").append(x.place(place, 0) + 10 * x.place(place, 2));
        }
        return text.toString();
    }
}
