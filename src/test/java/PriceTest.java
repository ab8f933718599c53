import java.util.Random;

/** Promise 11 (cheapest) and the waiter who is cheap, for five plates, far from order and by many costs. */
public final class PriceTest {
    private static final Due DUE = new Due("PriceTest");
    private static final String[] LAWS = {"l0;b1;", "l0;", "l1;m3;b1;", "l2;k4;b1;", "l3;b1;", "l3;", "l4;", "l4;b1;"};
    private static final String[] COSTS = {"c01;", "c09;", "c11;", "c19;", "c91;", "c03;"};

    public static void main(String[] args) {
        Random random = new Random(11);
        for (String law : LAWS) {
            for (String cost : COSTS) {
                heaps(random, law + cost);
            }
        }
        DUE.end();
    }

    private static void heaps(Random random, String told) {
        for (int k = 0; k < 4; k++) {
            StringBuilder text = new StringBuilder();
            for (int plate = 0; plate < 5; plate++) {
                text.append('p').append(1 + random.nextInt(5)).append(random.nextBoolean() ? "+;" : "-;");
            }
            text.append(told);
            TopTurned x = Due.with(text.toString());
            Model model = new Model();
            text.chars().forEach(model::letter);
            model.kitchen();
            DUE.is(text + " cheapest()", x.cheapest(), model.cheapest());
            DUE.is(text + " next(3)", x.next(3), model.next(3));
        }
    }
}
