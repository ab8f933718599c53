import java.util.function.Supplier;
import java.util.function.ToIntFunction;

/**
 * Two objects made alike, of which one alone gets a call: all that can be asked of both behind it
 * shows what the call changed. A pair takes some 250 of the 512 calls that an object is for.
 */
final class Twin {
    private final Due due;
    private final Supplier<TopTurned> maker;

    Twin(Due due, Supplier<TopTurned> maker) {
        this.due = due;
        this.maker = maker;
    }

    /** Refused with this number, counted once, and nothing else is other than it was. */
    void refuses(String name, ToIntFunction<TopTurned> call, int number) {
        look(name, call, number, 10 - number);
    }

    /** Answered, counted as no refusal, and nothing is other than it was. */
    void onlyAnswers(String name, ToIntFunction<TopTurned> call, int answer) {
        look(name, call, answer, -1);
    }

    private void look(String name, ToIntFunction<TopTurned> call, int answer, int counter) {
        TopTurned called = maker.get();
        TopTurned other = maker.get();
        due.is(name, call.applyAsInt(called), answer);
        for (int what = 11; what <= 16; what++) {
            int more = what == counter ? 1 : 0;
            due.is(name + ", behind it count(" + what + ")", called.count(what), other.count(what) + more);
        }
        due.same(name + ", behind it all that can be asked", all(called), all(other));
    }

    /** As things are, by the row and the letters told so far, and as the image has them. */
    private static String all(TopTurned x) {
        StringBuilder text = new StringBuilder(asThingsAre(x));
        text.append(" judge ").append(x.judge());
        text.append(" kitchen ").append(x.kitchen());
        text.append(" told ").append(Due.heap(x)).append(' ').append(x.count(5)).append(' ').append(x.cheapest());
        text.append(" on ").append(x.on()).append(' ').append(asThingsAre(x));
        text.append(" judge ").append(x.judge());
        text.append(" kitchen ").append(x.kitchen());
        return text.toString();
    }

    private static String asThingsAre(TopTurned x) {
        StringBuilder text = new StringBuilder(" counts");
        for (int what = 0; what <= 9; what++) {
            text.append(' ').append(x.count(what));
        }
        text.append(" heap ").append(Due.heap(x)).append(" sizes");
        for (int place = 0; place < x.count(0); place++) {
            text.append(' ').append(x.place(place, 1));
        }
        text.append(" sights");
        for (int k = 0; k < x.count(1); k++) {
            text.append(' ').append(x.sights(k, 0)).append('>').append(x.sights(k, 1));
        }
        text.append(" least ").append(x.least()).append(" cheapest ").append(x.cheapest());
        text.append(" ways ").append(x.ways()).append(" gaps ").append(x.gaps());
        text.append(" far ").append(x.far(-1)).append(' ').append(x.far(2));
        text.append(" before ").append(x.before(3)).append(" match ").append(x.match());
        for (int kind = 0; kind < 5; kind++) {
            text.append(" waiter ").append(x.next(kind)).append(' ').append(x.rule(kind));
        }
        text.append(" fewest ").append(x.fewest(-1)).append(' ').append(x.fewest(0));
        return text.toString();
    }
}
