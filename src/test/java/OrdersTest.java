/** Promises 8 and 9. */
public final class OrdersTest {
    public static void main(String[] args) {
        order();
        orderWrong();
        fillTakesFromTheTop();
        fillGoesByNumbers();
        fillTakesWhatFits();
        fillGoesOnLater();
        Check.end();
    }

    private static void order() {
        HerbLoft x = new HerbLoft();
        x.herb(3, 50);
        x.herb(6, 35);
        Check.due("order(1, 9, 60)", x.order(1, 9, 60), 0);
        Check.due("order(0, 1, 0)", x.order(0, 1, 0), 1);
        Check.due("order: herb", x.asked(0, 0), 1);
        Check.due("order: many", x.asked(0, 1), 9);
        Check.due("order: wet", x.asked(0, 2), 60);
        Check.due("order: got", x.asked(0, 3), 0);
        Check.due("order: how many", x.count(4), 2);
    }

    private static void orderWrong() {
        HerbLoft x = new HerbLoft();
        Check.fails("order without herbs", Check.INDEX, x, () -> x.order(0, 1, 0));
        x.herb(3, 50);
        Check.fails("order(-1, 1, 0)", Check.INDEX, x, () -> x.order(-1, 1, 0));
        Check.fails("order(1, 1, 0)", Check.INDEX, x, () -> x.order(1, 1, 0));
        Check.fails("order(0, 0, 0)", Check.ARGUMENT, x, () -> x.order(0, 0, 0));
        Check.fails("order(0, 10, 0)", Check.ARGUMENT, x, () -> x.order(0, 10, 0));
        Check.fails("order(0, 1, -1)", Check.ARGUMENT, x, () -> x.order(0, 1, -1));
        Check.fails("order(0, 1, 61)", Check.ARGUMENT, x, () -> x.order(0, 1, 61));
        Check.fails("order(1, 0, 61)", Check.INDEX, x, () -> x.order(1, 0, 61));
        for (int i = 0; i < 6; i++) {
            Check.due("order number " + i, x.order(0, 1, i), i);
        }
        Check.fails("a seventh order", Check.STATE, x, () -> x.order(0, 1, 0));
        Check.fails("a seventh order, wrong many", Check.ARGUMENT, x, () -> x.order(0, 0, 0));
        Check.fails("a seventh order, wrong wet", Check.ARGUMENT, x, () -> x.order(0, 1, 61));
        Check.fails("a seventh order, wrong herb", Check.INDEX, x, () -> x.order(1, 1, 0));
    }

    private static void fillTakesFromTheTop() {
        HerbLoft x = new HerbLoft();
        x.herb(3, 50);
        x.hang(0, 0, 0, 10);
        x.hang(4, 5, 0, 20);
        x.hang(4, 2, 0, 30);
        x.hang(3, 0, 0, 0);
        x.order(0, 3, 60);
        Check.due("fill()", x.fill(), 3);
        Check.due("fill: (4, 2) is off", x.told(4, 2, 0), -1);
        Check.due("fill: (4, 5) is off", x.told(4, 5, 0), -1);
        Check.due("fill: (3, 0) is off", x.told(3, 0, 0), -1);
        Check.due("fill: (0, 0) hangs", x.told(0, 0, 0), 0);
        Check.due("fill: got", x.asked(0, 3), 3);
        Check.due("fill: given in all", x.count(6), 3);
        Check.due("fill: orders that got all", x.count(5), 1);
        Check.due("fill() again", x.fill(), 0);
        Check.due("fill: (0, 0) hangs still", x.told(0, 0, 0), 0);

        HerbLoft y = new HerbLoft();
        y.herb(3, 50);
        y.hang(2, 6, 0, 10);
        y.hang(2, 1, 0, 10);
        y.order(0, 1, 60);
        Check.due("fill() by hooks", y.fill(), 1);
        Check.due("fill: the smallest hook first", y.told(2, 1, 0), -1);
        Check.due("fill: the other hangs", y.told(2, 6, 0), 0);
    }

    private static void fillGoesByNumbers() {
        HerbLoft x = new HerbLoft();
        x.herb(3, 50);
        x.hang(0, 0, 0, 10);
        x.hang(0, 1, 0, 10);
        x.hang(0, 2, 0, 10);
        x.order(0, 2, 60);
        x.order(0, 2, 60);
        Check.due("fill() of two orders", x.fill(), 3);
        Check.due("fill: the first got", x.asked(0, 3), 2);
        Check.due("fill: the second got", x.asked(1, 3), 1);
        Check.due("fill: one got all", x.count(5), 1);
    }

    private static void fillTakesWhatFits() {
        HerbLoft x = new HerbLoft();
        x.herb(1, 20);
        x.herb(1, 20);
        x.hang(0, 0, 0, 40);
        x.pass(3, 9);
        x.hang(1, 0, 1, 40);
        x.hang(2, 0, 0, 41);
        x.order(0, 9, 40);
        Check.due("fill() of mouldy, other and wetter ones", x.fill(), 0);
        x.hang(3, 0, 0, 40);
        Check.due("fill() of one just dry enough", x.fill(), 1);
        Check.due("fill: the mouldy one hangs", x.told(0, 0, 5), 1);
        Check.due("fill: the other herb hangs", x.told(1, 0, 0), 1);
        Check.due("fill: the wetter one hangs", x.told(2, 0, 3), 41);
        Check.due("fill: bundles", x.count(2), 3);
    }

    private static void fillGoesOnLater() {
        HerbLoft x = new HerbLoft();
        x.herb(9, 90);
        Check.due("fill() without orders", x.fill(), 0);
        x.order(0, 3, 50);
        Check.due("fill() without bundles", x.fill(), 0);
        x.hang(0, 0, 0, 50);
        x.hang(0, 1, 0, 60);
        Check.due("fill() of one", x.fill(), 1);
        x.pass(2, 0);
        Check.due("fill() of one more", x.fill(), 1);
        Check.due("fill: got two", x.asked(0, 3), 2);
        x.hang(0, 0, 0, 1);
        x.hang(0, 1, 0, 1);
        Check.due("fill() of the last", x.fill(), 1);
        Check.due("fill: one is left", x.count(2), 1);
        Check.due("fill: given in all", x.count(6), 3);
    }
}
