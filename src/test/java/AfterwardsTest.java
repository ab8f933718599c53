import java.util.ArrayList;
import java.util.List;
import java.util.function.Consumer;
import java.util.function.ToIntFunction;

/** "In mind, as things stand": no answer hangs on what was asked before, and each does on what was changed since. */
public final class AfterwardsTest {
    private static final Due DUE = new Due("AfterwardsTest");
    private static final String[] KITCHENS = {
        "p3-;p1+;p5+;p2-;p4+;b1;c12;s01;s12;", "p3-;p1+;p5+;p2-;p4+;l3;c91;k2;m3;", "p2+;p3-;p1+;b1;l1;m2;c01;s20;", "p2+;p1-;c25;"};

    private record Asked(String name, ToIntFunction<TopTurned> call) {
    }

    private record Change(String name, Consumer<TopTurned> call) {
    }

    public static void main(String[] args) {
        List<Asked> all = asked();
        for (String kitchen : KITCHENS) {
            int[] fresh = new int[all.size()];
            for (int k = 0; k < all.size(); k++) {
                fresh[k] = all.get(k).call().applyAsInt(Due.with(kitchen));
            }
            for (Asked before : all) {
                oneBehindAnother(kitchen, before, all, fresh);
            }
            for (Change change : changes()) {
                changed(kitchen, change, all);
            }
        }
        DUE.end();
    }

    private static List<Asked> asked() {
        List<Asked> all = new ArrayList<>();
        all.add(new Asked("inOrder()", TopTurned::inOrder));
        all.add(new Asked("gaps()", TopTurned::gaps));
        all.add(new Asked("least()", TopTurned::least));
        all.add(new Asked("cheapest()", TopTurned::cheapest));
        all.add(new Asked("ways()", TopTurned::ways));
        all.add(new Asked("match()", TopTurned::match));
        all.add(new Asked("count(9)", x -> x.count(9)));
        for (int n = -1; n <= 4; n++) {
            int number = n;
            all.add(new Asked("far(" + n + ")", x -> x.far(number)));
            all.add(new Asked("worst(" + n + ")", x -> x.worst(Math.min(number, x.count(0) - 1))));
            all.add(new Asked("fewest(" + n + ")", x -> x.fewest(number)));
        }
        for (int n = 0; n <= 4; n++) {
            int number = n;
            all.add(new Asked("before(" + n + ")", x -> x.before(number)));
            all.add(new Asked("next(" + n + ")", x -> x.next(number)));
            all.add(new Asked("rule(" + n + ")", x -> x.rule(number)));
            all.add(new Asked("shuffled(" + 7 * n + ", 9)", x -> x.shuffled(7 * number, 9)));
        }
        all.add(new Asked("path()", AfterwardsTest::upsideDown));
        all.add(new Asked("judge()", x -> {
            Due.rows(x, 2, 3, 12);
            return x.judge();
        }));
        all.add(new Asked("blind()", x -> {
            Due.rows(x, 1, 2, 1);
            return x.blind();
        }));
        return all;
    }

    private static int upsideDown(TopTurned x) {
        for (int plate = x.count(0) - 1; plate >= 0; plate--) {
            x.row(plate);
        }
        return x.path();
    }

    private static void oneBehindAnother(String kitchen, Asked before, List<Asked> all, int[] fresh) {
        TopTurned x = Due.with(kitchen);
        for (int k = 0; k < all.size(); k++) {
            before.call().applyAsInt(x);
            String name = kitchen + " " + before.name() + " and then " + all.get(k).name();
            DUE.is(name, all.get(k).call().applyAsInt(x), fresh[k]);
        }
    }

    private static List<Change> changes() {
        List<Change> all = new ArrayList<>();
        for (int law = 0; law < 5; law++) {
            int v = law;
            all.add(new Change("law(" + law + ")", x -> x.law(v)));
        }
        String[] texts = {"l1;m1;", "l1;m2;", "l2;k0;", "l2;k1;", "k9;", "b0;", "b1;", "c09;", "c90;", "c00;", "s01;", "s10;", "p2-;", "p9+;"};
        for (String text : texts) {
            all.add(new Change("\"" + text + "\"", x -> Due.tell(x, text)));
        }
        all.add(new Change("turn(0, 1)", x -> x.turn(0, 1)));
        all.add(new Change("turn(0, 2)", x -> x.turn(0, 2)));
        all.add(new Change("image() and more and on()", x -> {
            x.image();
            Due.tell(x, "p1+;");
            Due.tell(x, "l4;b1;c31;");
            x.ways();
            x.cheapest();
            x.on();
        }));
        return all;
    }

    /** Asked, changed, asked again: as it is without the first asking. */
    private static void changed(String kitchen, Change change, List<Asked> all) {
        TopTurned x = Due.with(kitchen);
        for (Asked asked : all) {
            asked.call().applyAsInt(x);
        }
        change.call().accept(x);
        TopTurned y = Due.with(kitchen);
        change.call().accept(y);
        for (Asked asked : all) {
            String name = kitchen + " " + change.name() + " and then " + asked.name();
            DUE.is(name, asked.call().applyAsInt(x), asked.call().applyAsInt(y));
        }
    }
}
