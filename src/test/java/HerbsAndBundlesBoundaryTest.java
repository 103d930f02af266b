import java.util.Arrays;
import java.util.function.Supplier;

/** The boundary cases of promises 1 to 7. */
public final class HerbsAndBundlesBoundaryTest extends Boundary {
    public static void main(String[] args) {
        newObject();
        herb();
        herbRefused();
        hang();
        hangRefused();
        take();
        takeRefused();
        move();
        moveCountsNeighbours();
        moveRefused();
        turn();
        setWindow();
        Check.end();
    }

    /** Bundles of an herb of ease 1 and limit 20, each given as string, hook, wet. */
    private static Supplier<HerbLoft> hung(int... bundles) {
        return () -> {
            HerbLoft x = new HerbLoft();
            x.herb(1, 20);
            for (int i = 0; i < bundles.length; i += 3) {
                x.hang(bundles[i], bundles[i + 1], 0, bundles[i + 2]);
            }
            return x;
        };
    }

    private static HerbLoft fullBut(int string, int hook) {
        HerbLoft x = FULL.get();
        x.take(string, hook);
        return x;
    }

    private static void newObject() {
        promise(1);
        answers("the day is 0", EMPTY, x -> each(x.count(0)), 0);
        answers("no herbs", EMPTY, x -> each(x.count(1)), 0);
        answers("no bundles, none with mould, nothing wet", EMPTY,
                x -> each(x.count(2), x.count(3), x.count(8)), 0, 0, 0);
        answers("no orders, none that got all, nothing given", EMPTY,
                x -> each(x.count(4), x.count(5), x.count(6)), 0, 0, 0);
        answers("the window is open by 0", EMPTY, x -> each(x.count(7), x.setWindow(0)), 0, 0);
        long[] none = new long[320];
        Arrays.fill(none, -1);
        answers("no bundle on any of 40 hooks", EMPTY, x -> {
            long[] told = new long[320];
            for (int i = 0; i < 320; i++) {
                told[i] = x.told(i / 64, i / 8 % 8, i % 8);
            }
            return told;
        }, none);
        refuses("no herb 0 yet", INDEX, EMPTY, x -> x.about(0, 0));
        refuses("no order 0 yet", INDEX, EMPTY, x -> x.asked(0, 0));
        answers("what is done in one loft is not in another", EMPTY, x -> {
            HerbLoft y = FULL.get();
            y.setWindow(3);
            y.pass(60, 0);
            y.fill();
            return each(x.count(0), x.count(1), x.count(2), x.count(4), x.count(6), x.count(7), x.told(0, 0, 0));
        }, 0, 0, 0, 0, 0, 0, -1);
        answers("the 512th call answers still", EMPTY, x -> {
            x.herb(1, 20);
            x.hang(0, 0, 0, 100);
            for (int i = 0; i < 509; i++) {
                x.pass(60, 9);
            }
            return each(x.told(0, 0, 4));
        }, 509 * 60);
        answers("the 512th call answers still, behind the dearest ones", FULL, x -> {
            for (int i = 0; i < 459; i++) {
                x.advise(30, 0);
            }
            return each(x.advise(30, 0));
        }, -1);
        endPromise();
    }

    private static void herb() {
        promise(2);
        answers("ease 1, the least", EMPTY, x -> each(x.herb(1, 50), x.about(0, 0)), 0, 1);
        answers("ease 2", EMPTY, x -> each(x.herb(2, 50), x.about(0, 0)), 0, 2);
        answers("ease 8", EMPTY, x -> each(x.herb(8, 50), x.about(0, 0)), 0, 8);
        answers("ease 9, the greatest", EMPTY, x -> each(x.herb(9, 50), x.about(0, 0)), 0, 9);
        answers("limit 20, the least", EMPTY, x -> each(x.herb(5, 20), x.about(0, 1)), 0, 20);
        answers("limit 21", EMPTY, x -> each(x.herb(5, 21), x.about(0, 1)), 0, 21);
        answers("limit 89", EMPTY, x -> each(x.herb(5, 89), x.about(0, 1)), 0, 89);
        answers("limit 90, the greatest", EMPTY, x -> each(x.herb(5, 90), x.about(0, 1)), 0, 90);
        answers("both the least", EMPTY, x -> each(x.herb(1, 20), x.about(0, 0), x.about(0, 1)), 0, 1, 20);
        answers("both the greatest", EMPTY, x -> each(x.herb(9, 90), x.about(0, 0), x.about(0, 1)), 0, 9, 90);
        answers("6 herbs, numbered 0 to 5", EMPTY,
                x -> each(x.herb(1, 30), x.herb(2, 31), x.herb(3, 32), x.herb(4, 33), x.herb(5, 34), x.herb(6, 35),
                        x.count(1), x.about(0, 0), x.about(4, 1), x.about(5, 0), x.about(5, 1)),
                0, 1, 2, 3, 4, 5, 6, 1, 34, 6, 35);
        answers("the same herb twice is two", EMPTY, x -> each(x.herb(5, 50), x.herb(5, 50), x.count(1)), 0, 1, 2);
        answers("a refused herb takes no number", EMPTY, x -> {
            x.herb(5, 50);
            try {
                x.herb(0, 50);
            } catch (IllegalArgumentException e) {
                return each(x.herb(5, 50));
            }
            return each();
        }, 1);
    }

    private static void herbRefused() {
        refusesOutside("ease", 1, 9, ARGUMENT, EMPTY, (x, n) -> x.herb(n, 50));
        refusesOutside("limit", 20, 90, ARGUMENT, EMPTY, (x, n) -> x.herb(5, n));
        refuses("limit 9, an ease", ARGUMENT, EMPTY, x -> x.herb(5, 9));
        refuses("limit 0", ARGUMENT, EMPTY, x -> x.herb(5, 0));
        refuses("ease and limit both wrong", ARGUMENT, EMPTY, x -> x.herb(0, 19));
        refuses("a seventh herb", STATE, SIX_HERBS, x -> x.herb(5, 50));
        refuses("a seventh herb in a full loft", STATE, FULL, x -> x.herb(5, 50));
        refuses("a seventh herb, both the least", STATE, SIX_HERBS, x -> x.herb(1, 20));
        refuses("a seventh herb, both the greatest", STATE, SIX_HERBS, x -> x.herb(9, 90));
        refuses("ease 0 before a seventh herb", ARGUMENT, SIX_HERBS, x -> x.herb(0, 50));
        refuses("ease 10 before a seventh herb", ARGUMENT, SIX_HERBS, x -> x.herb(10, 50));
        refuses("limit 19 before a seventh herb", ARGUMENT, SIX_HERBS, x -> x.herb(5, 19));
        refuses("limit 91 before a seventh herb", ARGUMENT, SIX_HERBS, x -> x.herb(5, 91));
        endPromise();
    }

    private static void hang() {
        promise(3);
        answers("string 0, hook 0", ONE_HERB, x -> each(x.hang(0, 0, 0, 30), x.told(0, 0, 3)), 1, 30);
        answers("string 0, hook 7", ONE_HERB, x -> each(x.hang(0, 7, 0, 30), x.told(0, 7, 3)), 1, 30);
        answers("string 4, hook 0", ONE_HERB, x -> each(x.hang(4, 0, 0, 30), x.told(4, 0, 3)), 1, 30);
        answers("string 4, hook 7", ONE_HERB, x -> each(x.hang(4, 7, 0, 30), x.told(4, 7, 3)), 1, 30);
        answers("hook 7 is not hook 0 of the next string", ONE_HERB,
                x -> each(x.hang(0, 7, 0, 30), x.told(1, 0, 0), x.hang(1, 0, 0, 31), x.told(0, 7, 3)), 1, -1, 2, 30);
        answers("herb 0 of 6", SIX_HERBS, x -> each(x.hang(2, 2, 0, 30), x.told(2, 2, 0)), 1, 0);
        answers("herb 5 of 6", SIX_HERBS, x -> each(x.hang(2, 2, 5, 30), x.told(2, 2, 0)), 1, 5);
        answers("wet 0", ONE_HERB, x -> each(x.hang(2, 2, 0, 0), x.told(2, 2, 1), x.told(2, 2, 2)), 1, 0, 0);
        answers("wet 1", ONE_HERB, x -> each(x.hang(2, 2, 0, 1), x.told(2, 2, 1), x.told(2, 2, 2)), 1, 1, 1);
        answers("wet 99", ONE_HERB, x -> each(x.hang(2, 2, 0, 99), x.told(2, 2, 1), x.told(2, 2, 2)), 1, 99, 99);
        answers("wet 100", ONE_HERB, x -> each(x.hang(2, 2, 0, 100), x.told(2, 2, 1), x.told(2, 2, 2)), 1, 100, 100);
        answers("no wet days and no mould at first", ONE_HERB,
                x -> each(x.hang(2, 2, 0, 100), x.told(2, 2, 4), x.told(2, 2, 5)), 1, 0, 0);
        answers("it counts those of all strings and herbs", SIX_HERBS,
                x -> each(x.hang(0, 0, 0, 9), x.hang(4, 7, 5, 9), x.hang(2, 2, 3, 9)), 1, 2, 3);
        answers("it does not count those taken off", hung(0, 0, 50, 1, 1, 50),
                x -> each(x.take(0, 0), x.hang(2, 2, 0, 9)), 50, 2);
        answers("the 40th bundle, at the last hook", () -> fullBut(4, 7),
                x -> each(x.count(2), x.hang(4, 7, 0, 100), x.count(2)), 39, 40, 40);
        answers("the 40th bundle, at the first hook", () -> fullBut(0, 0),
                x -> each(x.count(2), x.hang(0, 0, 0, 100), x.count(2)), 39, 40, 40);
        answers("a hook that take() has freed, of a mouldy bundle", hung(0, 0, 100),
                x -> each(x.pass(5, 9), x.take(0, 0), x.hang(0, 0, 0, 30), x.told(0, 0, 1), x.told(0, 0, 2),
                        x.told(0, 0, 4), x.told(0, 0, 5)),
                1, 100, 1, 30, 30, 0, 0);
        answers("a hook that move() has freed, of a mouldy bundle", hung(0, 0, 100),
                x -> each(x.pass(5, 9), x.move(0, 0, 3, 3), x.hang(0, 0, 0, 30), x.told(0, 0, 4), x.told(0, 0, 5),
                        x.told(3, 3, 5)),
                1, 0, 2, 0, 0, 3);
        answers("a hook that fill() has freed", hung(0, 0, 60),
                x -> each(x.order(0, 1, 60), x.fill(), x.hang(0, 0, 0, 30), x.told(0, 0, 3)), 0, 1, 1, 30);
    }

    private static void hangRefused() {
        refusesOutside("string", 0, 4, INDEX, ONE_HERB, (x, n) -> x.hang(n, 2, 0, 50));
        refusesOutside("hook", 0, 7, INDEX, ONE_HERB, (x, n) -> x.hang(2, n, 0, 50));
        refusesOutside("hook of string 0", 0, 7, INDEX, ONE_HERB, (x, n) -> x.hang(0, n, 0, 50));
        refusesOutside("hook of string 4", 0, 7, INDEX, ONE_HERB, (x, n) -> x.hang(4, n, 0, 50));
        refusesOutside("herb, of 1,", 0, 0, INDEX, ONE_HERB, (x, n) -> x.hang(2, 2, n, 50));
        refusesOutside("herb, of 6,", 0, 5, INDEX, SIX_HERBS, (x, n) -> x.hang(2, 2, n, 50));
        refuses("herb 0 without herbs", INDEX, EMPTY, x -> x.hang(2, 2, 0, 50));
        refusesOutside("wet", 0, 100, ARGUMENT, ONE_HERB, (x, n) -> x.hang(2, 2, 0, n));
        refuses("a taken hook", STATE, hung(2, 2, 50), x -> x.hang(2, 2, 0, 60));
        refuses("a taken hook, the same bundle again", STATE, hung(2, 2, 50), x -> x.hang(2, 2, 0, 50));
        refuses("a taken hook, of a dry bundle", STATE, hung(2, 2, 0), x -> x.hang(2, 2, 0, 0));
        refuses("a full loft, the first hook", STATE, FULL, x -> x.hang(0, 0, 0, 50));
        refuses("a full loft, the end of string 0", STATE, FULL, x -> x.hang(0, 7, 0, 50));
        refuses("a full loft, the start of string 4", STATE, FULL, x -> x.hang(4, 0, 0, 50));
        refuses("a full loft, the last hook", STATE, FULL, x -> x.hang(4, 7, 0, 50));
        refuses("no such string before wet 101", INDEX, ONE_HERB, x -> x.hang(5, 0, 0, 101));
        refuses("no such hook before wet 101", INDEX, ONE_HERB, x -> x.hang(0, 8, 0, 101));
        refuses("no such herb before wet 101", INDEX, ONE_HERB, x -> x.hang(0, 0, 1, 101));
        refuses("no such herb before wet -1", INDEX, ONE_HERB, x -> x.hang(0, 0, -1, -1));
        refuses("no such herb before a taken hook", INDEX, hung(2, 2, 50), x -> x.hang(2, 2, 1, 50));
        refuses("wet 101 before a taken hook", ARGUMENT, hung(2, 2, 50), x -> x.hang(2, 2, 0, 101));
        refuses("wet -1 before a taken hook", ARGUMENT, hung(2, 2, 50), x -> x.hang(2, 2, 0, -1));
        refuses("no such herb before wet 101 and a taken hook", INDEX, hung(2, 2, 50), x -> x.hang(2, 2, 1, 101));
        refuses("no such string in a full loft", INDEX, FULL, x -> x.hang(5, 0, 0, 50));
        refuses("no such hook in a full loft", INDEX, FULL, x -> x.hang(0, 8, 0, 50));
        endPromise();
    }

    private static void take() {
        promise(4);
        answers("string 0, hook 0", FULL, x -> each(x.take(0, 0), x.told(0, 0, 0), x.count(2)), 10, -1, 39);
        answers("string 0, hook 7", FULL, x -> each(x.take(0, 7), x.told(0, 7, 0), x.told(1, 0, 3)), 24, -1, 26);
        answers("string 4, hook 0", FULL, x -> each(x.take(4, 0), x.told(4, 0, 0), x.told(3, 7, 3)), 74, -1, 72);
        answers("string 4, hook 7", FULL, x -> each(x.take(4, 7), x.told(4, 7, 0), x.count(2)), 88, -1, 39);
        answers("the last bundle there is", hung(2, 2, 50),
                x -> each(x.take(2, 2), x.count(2), x.count(8), x.about(0, 2)), 50, 0, 0, 0);
        answers("wetness 0", hung(2, 2, 0), x -> each(x.take(2, 2), x.count(2)), 0, 0);
        answers("wetness 100", hung(2, 2, 100), x -> each(x.take(2, 2)), 100);
        answers("wetness is cut: front 49, back 50", hung(0, 0, 50), x -> each(x.pass(1, 0), x.take(0, 0)), 0, 49);
        answers("the wetness of both sides: front 46, back 50", hung(0, 0, 50),
                x -> each(x.pass(4, 0), x.take(0, 0)), 1, 48);
        answers("the wetness of both sides, turned: front 50, back 46", hung(0, 0, 50),
                x -> each(x.pass(4, 0), x.turn(0), x.take(0, 0)), 1, 1, 48);
        answers("a mouldy one", hung(0, 0, 100), x -> each(x.pass(3, 9), x.take(0, 0), x.count(3)), 1, 100, 0);
        answers("those beside it lose a neighbour", hung(2, 1, 50, 2, 2, 60, 2, 3, 50),
                x -> each(x.told(2, 1, 6), x.told(2, 1, 7), x.take(2, 2), x.told(2, 1, 6), x.told(2, 1, 7),
                        x.told(2, 3, 6), x.told(2, 3, 7)),
                1, 1, 60, 0, 0, 0, 0);
        answers("all 40, one by one", FULL, x -> {
            long sum = 0;
            for (int i = 0; i < 40; i++) {
                sum += x.take(i / 8, i % 8);
            }
            return each(sum, x.count(2));
        }, 1960, 0);
    }

    private static void takeRefused() {
        refusesOutside("string", 0, 4, INDEX, FULL, (x, n) -> x.take(n, 0));
        refusesOutside("hook", 0, 7, INDEX, FULL, (x, n) -> x.take(2, n));
        refusesOutside("hook of string 0", 0, 7, INDEX, FULL, (x, n) -> x.take(0, n));
        refusesOutside("hook of string 4", 0, 7, INDEX, FULL, (x, n) -> x.take(4, n));
        refuses("a free hook", STATE, hung(2, 2, 50), x -> x.take(2, 3));
        refuses("the free hook on the string above", STATE, hung(2, 2, 50), x -> x.take(3, 2));
        refuses("a free hook between two taken ones", STATE, hung(2, 1, 50, 2, 3, 50), x -> x.take(2, 2));
        refuses("the only free hook", STATE, () -> fullBut(4, 7), x -> x.take(4, 7));
        refuses("the first hook of an empty loft", STATE, EMPTY, x -> x.take(0, 0));
        refuses("the last hook of an empty loft", STATE, EMPTY, x -> x.take(4, 7));
        refuses("a bundle taken already", STATE, () -> {
            HerbLoft x = hung(2, 2, 50).get();
            x.take(2, 2);
            return x;
        }, x -> x.take(2, 2));
        refuses("a bundle moved away", STATE, () -> {
            HerbLoft x = hung(2, 2, 50).get();
            x.move(2, 2, 2, 3);
            return x;
        }, x -> x.take(2, 2));
        refuses("a bundle given to an order", STATE, () -> {
            HerbLoft x = hung(2, 2, 50).get();
            x.order(0, 1, 50);
            x.fill();
            return x;
        }, x -> x.take(2, 2));
        refuses("no such string before no bundle", INDEX, EMPTY, x -> x.take(5, 0));
        refuses("no such hook before no bundle", INDEX, EMPTY, x -> x.take(0, 8));
        endPromise();
    }

    private static void move() {
        promise(5);
        answers("from the first hook to the last", hung(0, 0, 50),
                x -> each(x.move(0, 0, 4, 7), x.told(0, 0, 0), x.told(4, 7, 3), x.count(2)), 0, -1, 50, 1);
        answers("from the last hook to the first", hung(4, 7, 50),
                x -> each(x.move(4, 7, 0, 0), x.told(4, 7, 0), x.told(0, 0, 3), x.count(2)), 0, -1, 50, 1);
        answers("from one end of a string to the other", hung(2, 0, 50),
                x -> each(x.move(2, 0, 2, 7), x.told(2, 0, 0), x.told(2, 7, 3)), 0, -1, 50);
        answers("to the same hook of another string", hung(2, 3, 50),
                x -> each(x.move(2, 3, 1, 3), x.told(2, 3, 0), x.told(1, 3, 3)), 0, -1, 50);
        answers("from the end of a string to the start of the next", hung(2, 7, 50),
                x -> each(x.move(2, 7, 3, 0), x.told(2, 7, 0), x.told(3, 0, 3)), 0, -1, 50);
        answers("there and back again", hung(2, 3, 50),
                x -> each(x.move(2, 3, 1, 3), x.move(1, 3, 2, 3), x.told(2, 3, 3), x.count(2)), 0, 0, 50, 1);
        answers("the sides, wet days and mould come along", hung(0, 0, 90),
                x -> each(x.pass(4, 0), x.move(0, 0, 3, 3), x.told(3, 3, 0), x.told(3, 3, 1), x.told(3, 3, 2),
                        x.told(3, 3, 4), x.told(3, 3, 5), x.told(0, 0, 4), x.told(0, 0, 5)),
                1, 0, 0, 86, 90, 4, 2, -1, -1);
        answers("herb 5 of 6 comes along", SIX_HERBS,
                x -> each(x.hang(0, 0, 5, 50), x.move(0, 0, 3, 3), x.told(3, 3, 0)), 1, 0, 5);
        answers("along its string the sides, wet days and mould come along", hung(0, 0, 90),
                x -> each(x.pass(4, 0), x.move(0, 0, 0, 5), x.told(0, 5, 0), x.told(0, 5, 1), x.told(0, 5, 2),
                        x.told(0, 5, 4), x.told(0, 5, 5)),
                1, 0, 0, 86, 90, 4, 2);
        answers("herb 5 of 6 comes along its string", SIX_HERBS,
                x -> each(x.hang(0, 0, 5, 50), x.move(0, 0, 0, 1), x.told(0, 1, 0)), 1, 0, 5);
        answers("a mould of 9 comes along", hung(0, 0, 100),
                x -> each(x.pass(60, 9), x.move(0, 0, 3, 3), x.told(3, 3, 4), x.told(3, 3, 5)), 1, 0, 60, 9);
        answers("a dry bundle", hung(0, 0, 0), x -> each(x.move(0, 0, 3, 3), x.told(3, 3, 3)), 0, 0);
        answers("to the only free hook, in the middle", () -> fullBut(2, 3),
                x -> each(x.move(0, 0, 2, 3), x.told(2, 3, 3), x.told(0, 0, 0), x.count(2)), 2, 10, -1, 39);
        answers("to the only free hook, at an end", () -> fullBut(4, 7),
                x -> each(x.move(0, 0, 4, 7), x.told(4, 7, 3), x.count(2)), 1, 10, 39);
        answers("to the only free hook, from beside it", () -> fullBut(2, 3),
                x -> each(x.move(2, 4, 2, 3), x.told(2, 3, 3)), 1, 50);
    }

    private static void moveCountsNeighbours() {
        answers("hook 0, none on hook 1", hung(0, 0, 50, 2, 2, 50), x -> each(x.move(0, 0, 2, 0)), 0);
        answers("hook 0, one on hook 1", hung(0, 0, 50, 2, 1, 50), x -> each(x.move(0, 0, 2, 0)), 1);
        answers("hook 7, none on hook 6", hung(0, 0, 50, 2, 5, 50), x -> each(x.move(0, 0, 2, 7)), 0);
        answers("hook 7, one on hook 6", hung(0, 0, 50, 2, 6, 50), x -> each(x.move(0, 0, 2, 7)), 1);
        answers("hook 3, one on hook 2", hung(0, 0, 50, 2, 2, 50), x -> each(x.move(0, 0, 2, 3)), 1);
        answers("hook 3, one on hook 4", hung(0, 0, 50, 2, 4, 50), x -> each(x.move(0, 0, 2, 3)), 1);
        answers("hook 3, ones on 2 and 4", hung(0, 0, 50, 2, 2, 50, 2, 4, 50), x -> each(x.move(0, 0, 2, 3)), 2);
        answers("hook 3, ones on 1 and 5", hung(0, 0, 50, 2, 1, 50, 2, 5, 50), x -> each(x.move(0, 0, 2, 3)), 0);
        answers("dry ones are neighbours", hung(0, 0, 50, 2, 2, 0, 2, 4, 0), x -> each(x.move(0, 0, 2, 3)), 2);
        answers("hook 0, not hook 7 of the string before", hung(0, 0, 50, 1, 7, 50), x -> each(x.move(0, 0, 2, 0)), 0);
        answers("hook 7, not hook 0 of the string behind", hung(0, 0, 50, 3, 0, 50), x -> each(x.move(0, 0, 2, 7)), 0);
        answers("not the same hook of strings beside", hung(0, 0, 50, 1, 3, 50, 3, 3, 50),
                x -> each(x.move(0, 0, 2, 3)), 0);
        answers("to the hook above its own: not its own", hung(2, 3, 50), x -> each(x.move(2, 3, 2, 4)), 0);
        answers("to the hook below its own: not its own", hung(2, 3, 50), x -> each(x.move(2, 3, 2, 2)), 0);
        answers("to the hook above, one beyond", hung(2, 3, 50, 2, 5, 50), x -> each(x.move(2, 3, 2, 4)), 1);
    }

    private static void moveRefused() {
        refusesOutside("string", 0, 4, INDEX, () -> fullBut(2, 3), (x, n) -> x.move(n, 0, 2, 3));
        refusesOutside("hook", 0, 7, INDEX, () -> fullBut(2, 3), (x, n) -> x.move(1, n, 2, 3));
        refusesOutside("second string", 0, 4, INDEX, hung(2, 3, 50), (x, n) -> x.move(2, 3, n, 0));
        refusesOutside("second hook", 0, 7, INDEX, hung(2, 3, 50), (x, n) -> x.move(2, 3, 1, n));
        refuses("none on the first hook", STATE, hung(2, 3, 50), x -> x.move(2, 4, 2, 5));
        refuses("none on the first hook, which is the second", STATE, hung(2, 3, 50), x -> x.move(2, 4, 2, 4));
        refuses("none on the first hook, one on the second", STATE, hung(2, 3, 50), x -> x.move(2, 4, 2, 3));
        refuses("one on the second hook", STATE, hung(2, 3, 50, 2, 4, 60), x -> x.move(2, 3, 2, 4));
        refuses("a dry one on the second hook", STATE, hung(2, 3, 50, 2, 4, 0), x -> x.move(2, 3, 2, 4));
        refuses("its own hook", STATE, hung(2, 3, 50), x -> x.move(2, 3, 2, 3));
        refuses("an empty loft", STATE, EMPTY, x -> x.move(0, 0, 4, 7));
        refuses("a full loft", STATE, FULL, x -> x.move(0, 0, 4, 7));
        refuses("no such second string before none on the first hook", INDEX, EMPTY, x -> x.move(0, 0, 5, 0));
        refuses("no such second hook before none on the first hook", INDEX, EMPTY, x -> x.move(0, 0, 0, 8));
        refuses("no such first string before one on the second hook", INDEX, FULL, x -> x.move(-1, 0, 0, 0));
        refuses("no such first hook before one on the second hook", INDEX, FULL, x -> x.move(0, -1, 0, 0));
        refuses("neither hook is there", INDEX, FULL, x -> x.move(5, 8, -1, -1));
        endPromise();
    }

    /** One bundle on each hook of a string, 1 to 4, with front 40 and back 45. */
    private static HerbLoft driedString(int string) {
        HerbLoft x = new HerbLoft();
        x.herb(9, 90);
        for (int hook = 0; hook < 8; hook++) {
            x.hang(string, hook, 0, 50);
        }
        x.pass(1, string - 1);
        return x;
    }

    private static void turn() {
        promise(6);
        answers("string 0", hung(0, 0, 50), x -> each(x.pass(2, 0), x.turn(0), x.told(0, 0, 1), x.told(0, 0, 2)),
                0, 1, 50, 48);
        answers("string 4", hung(4, 7, 50), x -> each(x.pass(1, 0), x.turn(4), x.told(4, 7, 1), x.told(4, 7, 2)),
                0, 1, 48, 45);
        answers("an empty string", hung(2, 2, 50), x -> each(x.turn(3), x.turn(1)), 0, 0);
        answers("an empty loft", EMPTY, x -> each(x.turn(0), x.turn(4)), 0, 0);
        answers("a full string, all 8 are turned", () -> driedString(2), x -> {
            long[] sides = new long[17];
            sides[0] = x.turn(2);
            for (int hook = 0; hook < 8; hook++) {
                sides[1 + 2 * hook] = x.told(2, hook, 1);
                sides[2 + 2 * hook] = x.told(2, hook, 2);
            }
            return sides;
        }, 8, 45, 40, 45, 40, 45, 40, 45, 40, 45, 40, 45, 40, 45, 40, 45, 40);
        answers("each string of a full loft", FULL, x -> each(x.turn(0), x.turn(1), x.turn(2), x.turn(3), x.turn(4)),
                8, 8, 8, 8, 8);
        answers("only the bundle on hook 0", hung(2, 0, 50), x -> each(x.turn(2)), 1);
        answers("only the bundle on hook 7", hung(2, 7, 50), x -> each(x.turn(2)), 1);
        answers("not the ends of the strings beside", hung(1, 7, 50, 3, 0, 50),
                x -> each(x.pass(1, 0), x.turn(2), x.told(1, 7, 1), x.told(1, 7, 2), x.told(3, 0, 1), x.told(3, 0, 2)),
                0, 0, 48, 49, 46, 48);
        answers("turned twice it is as before", hung(2, 2, 50),
                x -> each(x.pass(1, 0), x.turn(2), x.turn(2), x.told(2, 2, 1), x.told(2, 2, 2)), 0, 1, 1, 47, 49);
        answers("both sides alike", hung(2, 2, 50), x -> each(x.turn(2), x.told(2, 2, 1), x.told(2, 2, 2)), 1, 50, 50);
        answers("wetness, wet days and mould stay", hung(0, 2, 50),
                x -> each(x.pass(3, 0), x.turn(0), x.told(0, 2, 3), x.told(0, 2, 4), x.told(0, 2, 5)), 1, 1, 48, 3, 1);
        answers("the other side dries faster then", hung(2, 2, 50),
                x -> each(x.pass(1, 0), x.turn(2), x.pass(1, 0), x.told(2, 2, 1), x.told(2, 2, 2)), 0, 1, 0, 46, 46);
        answers("one hung behind it is not turned", hung(2, 2, 50),
                x -> each(x.turn(2), x.hang(2, 3, 0, 50), x.pass(1, 0), x.told(2, 3, 1), x.told(2, 3, 2)),
                1, 2, 0, 47, 49);
        refusesOutside("string", 0, 4, INDEX, FULL, (x, n) -> x.turn(n));
        refusesOutside("string, when the sides differ,", 0, 4, INDEX, () -> driedString(4), (x, n) -> x.turn(n));
        refuses("no such string in an empty loft", INDEX, EMPTY, x -> x.turn(5));
        endPromise();
    }

    private static void setWindow() {
        promise(7);
        answers("open by 0", EMPTY, x -> each(x.setWindow(0), x.count(7)), 0, 0);
        answers("open by 1", EMPTY, x -> each(x.setWindow(1), x.count(7)), 0, 1);
        answers("open by 2", EMPTY, x -> each(x.setWindow(2), x.count(7)), 0, 2);
        answers("open by 3", EMPTY, x -> each(x.setWindow(3), x.count(7)), 0, 3);
        answers("from 3 to 0", EMPTY, x -> each(x.setWindow(3), x.setWindow(0), x.count(7)), 0, 3, 0);
        answers("as it was already", EMPTY, x -> each(x.setWindow(3), x.setWindow(3), x.count(7)), 0, 3, 3);
        answers("a full loft", FULL, x -> each(x.setWindow(3), x.count(7)), 0, 3);
        answers("it is open from now on, not only for a day", hung(0, 0, 100),
                x -> each(x.setWindow(3), x.pass(2, 0), x.told(0, 0, 1), x.count(7)), 0, 0, 86, 3);
        refusesOutside("open", 0, 3, ARGUMENT, EMPTY, (x, n) -> x.setWindow(n));
        refusesOutside("open, when it is open by 2,", 0, 3, ARGUMENT, () -> {
            HerbLoft x = new HerbLoft();
            x.setWindow(2);
            return x;
        }, (x, n) -> x.setWindow(n));
        refuses("open 4 in a full loft", ARGUMENT, FULL, x -> x.setWindow(4));
        endPromise();
    }
}
