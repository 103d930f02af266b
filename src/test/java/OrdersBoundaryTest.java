import java.util.function.Supplier;

/** The boundary cases of promises 8 and 9. */
public final class OrdersBoundaryTest extends Boundary {
    public static void main(String[] args) {
        order();
        orderRefused();
        fillWhatItNeeds();
        fillWhatFits();
        fillInItsOrder();
        fillAgain();
        Check.end();
    }

    /** Bundles of herb 0 of 2, both of ease 1 and limit 20, each given as string, hook, wet. */
    private static Supplier<HerbLoft> hung(int... bundles) {
        return () -> {
            HerbLoft x = new HerbLoft();
            x.herb(1, 20);
            x.herb(1, 20);
            for (int i = 0; i < bundles.length; i += 3) {
                x.hang(bundles[i], bundles[i + 1], 0, bundles[i + 2]);
            }
            return x;
        };
    }

    /** So many bundles of herb 0, from the highest string on, each wet by 10. */
    private static Supplier<HerbLoft> many(int bundles) {
        return () -> {
            HerbLoft x = hung().get();
            for (int i = 0; i < bundles; i++) {
                x.hang(4 - i / 8, i % 8, 0, 10);
            }
            return x;
        };
    }

    private static void order() {
        promise(8);
        answers("for 1, the fewest", ONE_HERB, x -> each(x.order(0, 1, 30), x.asked(0, 1)), 0, 1);
        answers("for 2", ONE_HERB, x -> each(x.order(0, 2, 30), x.asked(0, 1)), 0, 2);
        answers("for 8", ONE_HERB, x -> each(x.order(0, 8, 30), x.asked(0, 1)), 0, 8);
        answers("for 9, the most", ONE_HERB, x -> each(x.order(0, 9, 30), x.asked(0, 1)), 0, 9);
        answers("wet by 0", ONE_HERB, x -> each(x.order(0, 5, 0), x.asked(0, 2)), 0, 0);
        answers("wet by 1", ONE_HERB, x -> each(x.order(0, 5, 1), x.asked(0, 2)), 0, 1);
        answers("wet by 59", ONE_HERB, x -> each(x.order(0, 5, 59), x.asked(0, 2)), 0, 59);
        answers("wet by 60", ONE_HERB, x -> each(x.order(0, 5, 60), x.asked(0, 2)), 0, 60);
        answers("herb 0 of 6", SIX_HERBS, x -> each(x.order(0, 5, 30), x.asked(0, 0)), 0, 0);
        answers("herb 5 of 6", SIX_HERBS, x -> each(x.order(5, 5, 30), x.asked(0, 0)), 0, 5);
        answers("a new one got none, though bundles fit it", hung(0, 0, 10),
                x -> each(x.order(0, 1, 60), x.asked(0, 3), x.count(2), x.count(6)), 0, 0, 1, 0);
        answers("6 orders, numbered 0 to 5", ONE_HERB,
                x -> each(x.order(0, 1, 0), x.order(0, 2, 0), x.order(0, 3, 0), x.order(0, 4, 0), x.order(0, 5, 0),
                        x.order(0, 6, 0), x.count(4), x.asked(0, 1), x.asked(5, 1)),
                0, 1, 2, 3, 4, 5, 6, 1, 6);
        answers("the same order twice is two", ONE_HERB,
                x -> each(x.order(0, 5, 30), x.order(0, 5, 30), x.count(4)), 0, 1, 2);
        answers("a refused order takes no number", ONE_HERB, x -> {
            x.order(0, 5, 30);
            try {
                x.order(0, 0, 30);
            } catch (IllegalArgumentException e) {
                return each(x.order(0, 5, 30));
            }
            return each();
        }, 1);
    }

    private static void orderRefused() {
        refusesOutside("herb, of 1,", 0, 0, INDEX, ONE_HERB, (x, n) -> x.order(n, 5, 30));
        refusesOutside("herb, of 6,", 0, 5, INDEX, SIX_HERBS, (x, n) -> x.order(n, 5, 30));
        refuses("herb 0 without herbs", INDEX, EMPTY, x -> x.order(0, 5, 30));
        refusesOutside("many", 1, 9, ARGUMENT, ONE_HERB, (x, n) -> x.order(0, n, 30));
        refusesOutside("wet", 0, 60, ARGUMENT, ONE_HERB, (x, n) -> x.order(0, 5, n));
        refuses("wet 100, as wet as a bundle may be", ARGUMENT, ONE_HERB, x -> x.order(0, 5, 100));
        refuses("many and wet both wrong", ARGUMENT, ONE_HERB, x -> x.order(0, 0, 61));
        refuses("a seventh order", STATE, FULL, x -> x.order(0, 5, 30));
        refuses("a seventh order, the least of all", STATE, FULL, x -> x.order(0, 1, 0));
        refuses("a seventh order, the greatest of all", STATE, FULL, x -> x.order(5, 9, 60));
        refuses("a seventh order, when all six got all", STATE, () -> {
            HerbLoft x = many(6).get();
            for (int i = 0; i < 6; i++) {
                x.order(0, 1, 60);
            }
            x.fill();
            return x;
        }, x -> x.order(0, 1, 60));
        refuses("no such herb before many 0", INDEX, ONE_HERB, x -> x.order(1, 0, 30));
        refuses("no such herb before wet 61", INDEX, ONE_HERB, x -> x.order(-1, 5, 61));
        refuses("no such herb before many 10, without herbs", INDEX, EMPTY, x -> x.order(0, 10, 30));
        refuses("no such herb before a seventh order", INDEX, FULL, x -> x.order(6, 5, 30));
        refuses("many 0 before a seventh order", ARGUMENT, FULL, x -> x.order(0, 0, 30));
        refuses("many 10 before a seventh order", ARGUMENT, FULL, x -> x.order(0, 10, 30));
        refuses("wet -1 before a seventh order", ARGUMENT, FULL, x -> x.order(0, 5, -1));
        refuses("wet 61 before a seventh order", ARGUMENT, FULL, x -> x.order(0, 5, 61));
        refuses("no such herb before many 0 and a seventh order", INDEX, FULL, x -> x.order(6, 0, 61));
        endPromise();
    }

    private static void fillWhatItNeeds() {
        promise(9);
        answers("an empty loft", EMPTY, x -> each(x.fill(), x.count(6)), 0, 0);
        answers("no orders", hung(0, 0, 10), x -> each(x.fill(), x.count(2)), 0, 1);
        answers("no bundles", hung(), x -> each(x.order(0, 1, 60), x.fill(), x.asked(0, 3)), 0, 0, 0);
        answers("one for 1, 1 hangs", many(1),
                x -> each(x.order(0, 1, 60), x.fill(), x.asked(0, 3), x.count(5), x.count(6), x.count(2)),
                0, 1, 1, 1, 1, 0);
        answers("one for 1, 2 hang", many(2),
                x -> each(x.order(0, 1, 60), x.fill(), x.asked(0, 3), x.count(5), x.count(2)), 0, 1, 1, 1, 1);
        answers("one for 2, 1 hangs", many(1),
                x -> each(x.order(0, 2, 60), x.fill(), x.asked(0, 3), x.count(5), x.count(2)), 0, 1, 1, 0, 0);
        answers("one for 9, 8 hang", many(8),
                x -> each(x.order(0, 9, 60), x.fill(), x.asked(0, 3), x.count(5), x.count(2)), 0, 8, 8, 0, 0);
        answers("one for 9, 9 hang", many(9),
                x -> each(x.order(0, 9, 60), x.fill(), x.asked(0, 3), x.count(5), x.count(2)), 0, 9, 9, 1, 0);
        answers("one for 9, 10 hang", many(10),
                x -> each(x.order(0, 9, 60), x.fill(), x.asked(0, 3), x.count(5), x.told(3, 0, 0), x.told(3, 1, 0)),
                0, 9, 9, 1, -1, 0);
        answers("40 hang, six orders for 9 each", many(40), x -> {
            for (int i = 0; i < 6; i++) {
                x.order(0, 9, 60);
            }
            return each(x.fill(), x.asked(0, 3), x.asked(3, 3), x.asked(4, 3), x.asked(5, 3), x.count(2), x.count(5),
                    x.count(6));
        }, 40, 9, 9, 4, 0, 0, 4, 40);
        answers("40 hang, six orders for 1 each", many(40), x -> {
            for (int i = 0; i < 6; i++) {
                x.order(0, 1, 60);
            }
            return each(x.fill(), x.asked(0, 3), x.asked(5, 3), x.count(2), x.count(5), x.told(4, 5, 0), x.told(4, 6, 0));
        }, 6, 1, 1, 34, 6, -1, 0);
        answers("a full loft of six herbs", FULL,
                x -> each(x.fill(), x.asked(0, 3), x.asked(1, 3), x.asked(2, 3), x.asked(5, 3), x.count(2), x.count(5),
                        x.told(3, 1, 0), x.told(3, 2, 0)),
                26, 5, 5, 4, 4, 14, 0, -1, 2);
    }

    private static void fillWhatFits() {
        answers("as wet as it may be", hung(0, 0, 40), x -> each(x.order(0, 1, 40), x.fill()), 0, 1);
        answers("wetter by 1", hung(0, 0, 41), x -> each(x.order(0, 1, 40), x.fill(), x.count(2)), 0, 0, 1);
        answers("drier by 1", hung(0, 0, 39), x -> each(x.order(0, 1, 40), x.fill()), 0, 1);
        answers("0 of 0", hung(0, 0, 0), x -> each(x.order(0, 1, 0), x.fill()), 0, 1);
        answers("1 of 0", hung(0, 0, 1), x -> each(x.order(0, 1, 0), x.fill()), 0, 0);
        answers("60 of 60", hung(0, 0, 60), x -> each(x.order(0, 1, 60), x.fill()), 0, 1);
        answers("61 of 60", hung(0, 0, 61), x -> each(x.order(0, 1, 60), x.fill()), 0, 0);
        answers("wetness is cut: 40 and 41 are 40", hung(0, 0, 41),
                x -> each(x.pass(1, 0), x.order(0, 1, 40), x.fill()), 0, 0, 1);
        answers("wetness 41 of front 40, back 43: not 40", hung(4, 0, 45),
                x -> each(x.pass(1, 0), x.order(0, 1, 40), x.fill(), x.order(0, 1, 41), x.fill()), 0, 0, 0, 1, 1);
        answers("wetness 41 of front 43, back 40: not 40", hung(4, 0, 45),
                x -> each(x.pass(1, 0), x.turn(4), x.order(0, 1, 40), x.fill(), x.order(0, 1, 41), x.fill()),
                0, 1, 0, 0, 1, 1);
        answers("two wet days, no mould", hung(0, 0, 40), x -> each(x.pass(2, 9), x.order(0, 1, 40), x.fill()), 0, 0, 1);
        answers("mould of 1", hung(0, 0, 40),
                x -> each(x.pass(3, 9), x.order(0, 1, 40), x.fill(), x.count(2)), 1, 0, 0, 1);
        answers("mould of 9", hung(0, 0, 40), x -> each(x.pass(60, 9), x.order(0, 1, 40), x.fill()), 1, 0, 0);
        answers("another herb", hung(0, 0, 40), x -> each(x.order(1, 1, 40), x.fill(), x.count(2)), 0, 0, 1);
        answers("each herb for its own order", hung(4, 0, 40),
                x -> each(x.hang(0, 0, 1, 40), x.order(1, 9, 40), x.order(0, 9, 40), x.fill(), x.asked(0, 3),
                        x.asked(1, 3)),
                2, 0, 1, 2, 1, 1);
        answers("one that does not fit is passed over", hung(4, 0, 41, 3, 0, 40),
                x -> each(x.order(0, 1, 40), x.fill(), x.told(4, 0, 0), x.told(3, 0, 0)), 0, 1, 0, -1);
    }

    private static void fillInItsOrder() {
        answers("string 4 before string 0", hung(0, 0, 10, 4, 0, 10),
                x -> each(x.order(0, 1, 60), x.fill(), x.told(4, 0, 0), x.told(0, 0, 0)), 0, 1, -1, 0);
        answers("string 1 before string 0", hung(0, 0, 10, 1, 0, 10),
                x -> each(x.order(0, 1, 60), x.fill(), x.told(1, 0, 0), x.told(0, 0, 0)), 0, 1, -1, 0);
        answers("hook 0 before hook 7", hung(2, 7, 10, 2, 0, 10),
                x -> each(x.order(0, 1, 60), x.fill(), x.told(2, 0, 0), x.told(2, 7, 0)), 0, 1, -1, 0);
        answers("hook 3 before hook 4", hung(2, 4, 10, 2, 3, 10),
                x -> each(x.order(0, 1, 60), x.fill(), x.told(2, 3, 0), x.told(2, 4, 0)), 0, 1, -1, 0);
        answers("hook 7 of a string before hook 0 of the string below", hung(2, 0, 10, 3, 7, 10),
                x -> each(x.order(0, 1, 60), x.fill(), x.told(3, 7, 0), x.told(2, 0, 0)), 0, 1, -1, 0);
        answers("not the driest first", hung(0, 0, 10, 4, 7, 60),
                x -> each(x.order(0, 1, 60), x.fill(), x.told(4, 7, 0), x.told(0, 0, 0)), 0, 1, -1, 0);
        answers("order 0 before order 1", hung(0, 0, 10),
                x -> each(x.order(0, 1, 60), x.order(0, 1, 10), x.fill(), x.asked(0, 3), x.asked(1, 3)),
                0, 1, 1, 1, 0);
        answers("order 0 does not leave what order 1 could get", hung(4, 0, 10, 0, 0, 60),
                x -> each(x.order(0, 1, 60), x.order(0, 1, 10), x.fill(), x.asked(0, 3), x.asked(1, 3), x.told(0, 0, 3)),
                0, 1, 1, 1, 0, 60);
        answers("order 1 gets what does not fit order 0", hung(0, 0, 50),
                x -> each(x.order(0, 1, 49), x.order(0, 1, 50), x.fill(), x.asked(0, 3), x.asked(1, 3)),
                0, 1, 1, 0, 1);
        answers("order 5 gets the last of six", many(6), x -> {
            for (int i = 0; i < 6; i++) {
                x.order(0, 1, 60);
            }
            return each(x.fill(), x.asked(5, 3), x.count(5));
        }, 6, 1, 6);
        answers("order 5 gets none of five", many(5), x -> {
            for (int i = 0; i < 6; i++) {
                x.order(0, 1, 60);
            }
            return each(x.fill(), x.asked(4, 3), x.asked(5, 3), x.count(5));
        }, 5, 1, 0, 5);
        answers("order 0 gets all before order 1 gets some", many(3),
                x -> each(x.order(0, 2, 60), x.order(0, 2, 60), x.fill(), x.asked(0, 3), x.asked(1, 3)), 0, 1, 3, 2, 1);
    }

    private static void fillAgain() {
        answers("none is left for a second time", many(2),
                x -> each(x.order(0, 9, 60), x.fill(), x.fill(), x.asked(0, 3), x.count(6)), 0, 2, 0, 2, 2);
        answers("an order that got all gets no more", many(2),
                x -> each(x.order(0, 1, 60), x.fill(), x.fill(), x.asked(0, 3), x.count(2), x.count(6)),
                0, 1, 0, 1, 1, 1);
        answers("an order that got some goes on", hung(0, 0, 10),
                x -> each(x.order(0, 3, 60), x.fill(), x.hang(1, 1, 0, 10), x.fill(), x.asked(0, 3), x.count(5),
                        x.hang(1, 1, 0, 10), x.hang(1, 2, 0, 10), x.fill(), x.asked(0, 3), x.count(5), x.count(2),
                        x.count(6)),
                0, 1, 1, 1, 2, 0, 1, 2, 1, 3, 1, 1, 3);
        answers("one that was too wet fits when it is dry", hung(4, 0, 45),
                x -> each(x.order(0, 1, 41), x.fill(), x.pass(1, 0), x.fill()), 0, 0, 0, 1);
        answers("given ones are off the hooks, those beside lose a neighbour", hung(2, 2, 61, 2, 3, 10),
                x -> each(x.order(0, 1, 60), x.told(2, 2, 6), x.fill(), x.told(2, 2, 6), x.told(2, 3, 0), x.count(8)),
                0, 1, 1, 0, -1, 61);
        answers("given in all are those of all times", many(3),
                x -> each(x.order(0, 1, 60), x.fill(), x.order(0, 1, 60), x.fill(), x.count(6)), 0, 1, 1, 1, 2);
        endPromise();
    }
}
