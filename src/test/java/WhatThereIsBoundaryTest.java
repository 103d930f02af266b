import java.util.function.Supplier;

/** The boundary cases of promises 11 to 14. */
public final class WhatThereIsBoundaryTest extends Boundary {
    public static void main(String[] args) {
        told();
        toldOfNeighbours();
        toldRefused();
        about();
        aboutRefused();
        asked();
        askedRefused();
        count();
        countRefused();
        Check.end();
    }

    /** Bundles of herb 0 of 2, both of ease 1 and limit 20, each given as string, hook, wet. */
    private static Supplier<HerbLoft> hung(int... bundles) {
        return () -> {
            HerbLoft x = new HerbLoft();
            x.herb(1, 20);
            x.herb(1, 20);
            for (int i = 0; i < bundles.length; i += 3) {
                x.hang(bundles[i], bundles[i + 1], 0, bundles[i + 2]);
            }
            return x;
        };
    }

    private static HerbLoft withOrder(int many, int wet, Supplier<HerbLoft> loft) {
        HerbLoft x = loft.get();
        x.order(0, many, wet);
        return x;
    }

    private static long[] allTold(HerbLoft x, int string, int hook) {
        long[] all = new long[8];
        for (int what = 0; what < 8; what++) {
            all[what] = x.told(string, hook, what);
        }
        return all;
    }

    private static long[] allAbout(HerbLoft x, int herb) {
        return each(x.about(herb, 0), x.about(herb, 1), x.about(herb, 2), x.about(herb, 3), x.about(herb, 4));
    }

    private static long[] allAsked(HerbLoft x, int order) {
        return each(x.asked(order, 0), x.asked(order, 1), x.asked(order, 2), x.asked(order, 3), x.asked(order, 4));
    }

    private static long[] allCounted(HerbLoft x) {
        long[] all = new long[9];
        for (int what = 0; what < 9; what++) {
            all[what] = x.count(what);
        }
        return all;
    }

    private static void told() {
        promise(11);
        answers("string 0, hook 0 of a full loft", FULL, x -> allTold(x, 0, 0), 0, 10, 10, 10, 0, 0, 1, 1);
        answers("string 0, hook 7 of a full loft", FULL, x -> allTold(x, 0, 7), 1, 24, 24, 24, 0, 0, 1, 0);
        answers("string 2, hook 3 of a full loft", FULL, x -> allTold(x, 2, 3), 1, 48, 48, 48, 0, 0, 2, 1);
        answers("string 4, hook 0 of a full loft", FULL, x -> allTold(x, 4, 0), 2, 74, 74, 74, 0, 0, 1, 1);
        answers("string 4, hook 7 of a full loft", FULL, x -> allTold(x, 4, 7), 3, 88, 88, 88, 0, 0, 1, 0);
        answers("an empty loft, the first hook", EMPTY, x -> allTold(x, 0, 0), -1, -1, -1, -1, -1, -1, -1, -1);
        answers("an empty loft, the last hook", EMPTY, x -> allTold(x, 4, 7), -1, -1, -1, -1, -1, -1, -1, -1);
        answers("an empty hook between two bundles", hung(2, 2, 50, 2, 4, 50), x -> allTold(x, 2, 3),
                -1, -1, -1, -1, -1, -1, -1, -1);
        answers("a hook whose bundle was taken, wet and mouldy", hung(2, 2, 50),
                x -> {
                    x.pass(5, 9);
                    x.take(2, 2);
                    return allTold(x, 2, 2);
                }, -1, -1, -1, -1, -1, -1, -1, -1);
        answers("a hook whose bundle was moved, wet and mouldy", hung(2, 2, 50),
                x -> {
                    x.pass(5, 9);
                    x.move(2, 2, 2, 3);
                    return allTold(x, 2, 2);
                }, -1, -1, -1, -1, -1, -1, -1, -1);
        answers("a hook whose bundle was given", hung(2, 2, 50),
                x -> {
                    x.order(0, 1, 60);
                    x.fill();
                    return allTold(x, 2, 2);
                }, -1, -1, -1, -1, -1, -1, -1, -1);
        answers("a dry bundle", hung(2, 2, 0), x -> allTold(x, 2, 2), 0, 0, 0, 0, 0, 0, 0, 0);
        answers("a bundle wet by 100", hung(2, 2, 100), x -> allTold(x, 2, 2), 0, 100, 100, 100, 0, 0, 0, 0);
        answers("herb 5 of 6", SIX_HERBS, x -> each(x.hang(2, 2, 5, 50), x.told(2, 2, 0)), 1, 5);
        answers("wetness is cut: 49 and 50 are 49", hung(0, 0, 50),
                x -> {
                    x.pass(1, 0);
                    return allTold(x, 0, 0);
                }, 0, 49, 50, 49, 1, 0, 0, 0);
        answers("front and back when it is turned", hung(0, 0, 50),
                x -> each(x.pass(1, 0), x.turn(0), x.told(0, 0, 1), x.told(0, 0, 2), x.told(0, 0, 3)), 0, 1, 50, 49, 49);
        answers("two wet days, no mould", hung(0, 0, 50),
                x -> each(x.pass(2, 9), x.told(0, 0, 4), x.told(0, 0, 5)), 0, 2, 0);
        answers("three wet days, mould 1", hung(0, 0, 50),
                x -> each(x.pass(3, 9), x.told(0, 0, 4), x.told(0, 0, 5)), 1, 3, 1);
        answers("twelve wet days, mould 9", hung(0, 0, 50),
                x -> each(x.pass(12, 9), x.told(0, 0, 4), x.told(0, 0, 5)), 1, 12, 9);
        changesNothing("it changes nothing", FULL, x -> x.told(4, 7, 7));
    }

    private static void toldOfNeighbours() {
        answers("no neighbours", hung(2, 3, 50), x -> each(x.told(2, 3, 6), x.told(2, 3, 7)), 0, 0);
        answers("a neighbour on the hook below, wetter by 1", hung(2, 3, 50, 2, 2, 51),
                x -> each(x.told(2, 3, 6), x.told(2, 3, 7)), 1, 1);
        answers("a neighbour on the hook above, wetter by 1", hung(2, 3, 50, 2, 4, 51),
                x -> each(x.told(2, 3, 6), x.told(2, 3, 7)), 1, 1);
        answers("a neighbour as wet", hung(2, 3, 50, 2, 4, 50), x -> each(x.told(2, 3, 6), x.told(2, 3, 7)), 1, 0);
        answers("a neighbour drier by 1", hung(2, 3, 50, 2, 4, 49), x -> each(x.told(2, 3, 6), x.told(2, 3, 7)), 1, 0);
        answers("two neighbours, both wetter", hung(2, 3, 50, 2, 2, 51, 2, 4, 51),
                x -> each(x.told(2, 3, 6), x.told(2, 3, 7)), 2, 2);
        answers("two neighbours, one wetter", hung(2, 3, 50, 2, 2, 50, 2, 4, 51),
                x -> each(x.told(2, 3, 6), x.told(2, 3, 7)), 2, 1);
        answers("two neighbours, both dry", hung(2, 3, 0, 2, 2, 0, 2, 4, 0),
                x -> each(x.told(2, 3, 6), x.told(2, 3, 7)), 2, 0);
        answers("hook 0, one on hook 1", hung(2, 0, 50, 2, 1, 51), x -> each(x.told(2, 0, 6), x.told(2, 0, 7)), 1, 1);
        answers("hook 7, one on hook 6", hung(2, 7, 50, 2, 6, 51), x -> each(x.told(2, 7, 6), x.told(2, 7, 7)), 1, 1);
        answers("hook 0, not hook 7 of the string before", hung(2, 0, 50, 1, 7, 51),
                x -> each(x.told(2, 0, 6), x.told(2, 0, 7)), 0, 0);
        answers("hook 7, not hook 0 of the next string", hung(2, 7, 50, 3, 0, 51),
                x -> each(x.told(2, 7, 6), x.told(2, 7, 7)), 0, 0);
        answers("not the same hook of strings beside", hung(2, 3, 50, 1, 3, 51, 3, 3, 51),
                x -> each(x.told(2, 3, 6), x.told(2, 3, 7)), 0, 0);
        answers("not two hooks off", hung(2, 3, 50, 2, 1, 51, 2, 5, 51),
                x -> each(x.told(2, 3, 6), x.told(2, 3, 7)), 0, 0);
        answers("the first and the last hook have no others", hung(0, 0, 50, 4, 7, 51),
                x -> each(x.told(0, 0, 6), x.told(0, 0, 7), x.told(4, 7, 6), x.told(4, 7, 7)), 0, 0, 0, 0);
        answers("wetness is cut: 50 and 51 are not wetter than 50", hung(0, 0, 51),
                x -> each(x.pass(1, 0), x.hang(0, 1, 0, 50), x.told(0, 1, 7), x.told(0, 0, 7)), 0, 2, 0, 0);
    }

    private static void toldRefused() {
        refusesOutside("string", 0, 4, INDEX, FULL, (x, n) -> x.told(n, 0, 0));
        refusesOutside("hook", 0, 7, INDEX, FULL, (x, n) -> x.told(2, n, 0));
        refusesOutside("hook of string 0", 0, 7, INDEX, FULL, (x, n) -> x.told(0, n, 0));
        refusesOutside("hook of string 4", 0, 7, INDEX, FULL, (x, n) -> x.told(4, n, 0));
        refusesOutside("what", 0, 7, INDEX, FULL, (x, n) -> x.told(2, 3, n));
        refusesOutside("what, of an empty hook,", 0, 7, INDEX, EMPTY, (x, n) -> x.told(2, 3, n));
        refuses("string, hook and what all wrong", INDEX, FULL, x -> x.told(5, 8, 8));
        endPromise();
    }

    private static void about() {
        promise(12);
        answers("the only herb, without bundles", ONE_HERB, x -> allAbout(x, 0), 1, 20, 0, 0, -1);
        answers("herb 0 of 6, without bundles", SIX_HERBS, x -> allAbout(x, 0), 1, 20, 0, 0, -1);
        answers("herb 5 of 6, without bundles", SIX_HERBS, x -> allAbout(x, 5), 6, 90, 0, 0, -1);
        answers("herb 0 of a full loft", FULL, x -> allAbout(x, 0), 1, 20, 7, 0, 10);
        answers("herb 5 of a full loft", FULL, x -> allAbout(x, 5), 6, 90, 6, 0, 20);
        answers("one that is dry: the least wetness is 0", hung(2, 2, 0), x -> allAbout(x, 0), 1, 20, 1, 0, 0);
        answers("one wet by 100", hung(2, 2, 100), x -> allAbout(x, 0), 1, 20, 1, 0, 100);
        answers("the least of two, hung first", hung(2, 2, 30, 3, 3, 31), x -> allAbout(x, 0), 1, 20, 2, 0, 30);
        answers("the least of two, hung last", hung(2, 2, 31, 3, 3, 30), x -> allAbout(x, 0), 1, 20, 2, 0, 30);
        answers("the least of two alike", hung(2, 2, 30, 3, 3, 30), x -> allAbout(x, 0), 1, 20, 2, 0, 30);
        answers("the least is 0, not none", hung(2, 2, 0, 3, 3, 30), x -> allAbout(x, 0), 1, 20, 2, 0, 0);
        answers("on the first hook and the last", hung(0, 0, 30, 4, 7, 29), x -> allAbout(x, 0), 1, 20, 2, 0, 29);
        answers("wetness is cut: 29 and 30 are 29", hung(0, 0, 30),
                x -> {
                    x.pass(1, 0);
                    return allAbout(x, 0);
                }, 1, 20, 1, 0, 29);
        answers("wetness is of both sides: front 25, back 28", hung(4, 0, 30),
                x -> each(x.pass(1, 0), x.about(0, 4), x.turn(4), x.about(0, 4)), 0, 26, 1, 26);
        answers("wetness 23 of front 20, back 26 is not less than 21", hung(4, 0, 30),
                x -> each(x.pass(2, 0), x.hang(0, 0, 0, 21), x.about(0, 4)), 0, 2, 21);
        answers("wetness 23 of front 26, back 20 is not less than 21", hung(4, 0, 30),
                x -> each(x.pass(2, 0), x.turn(4), x.hang(0, 0, 0, 21), x.about(0, 4)), 0, 1, 2, 21);
        answers("wetness 23 of front 26, back 20 is less than 24", hung(4, 0, 30),
                x -> each(x.pass(2, 0), x.turn(4), x.hang(0, 0, 0, 24), x.about(0, 4)), 0, 1, 2, 23);
        answers("wetness 23 of front 20, back 26 is less than 24", hung(4, 0, 30),
                x -> each(x.pass(2, 0), x.hang(0, 0, 0, 24), x.about(0, 4)), 0, 2, 23);
        answers("all have mould: no least wetness", hung(0, 0, 30),
                x -> {
                    x.pass(3, 9);
                    return allAbout(x, 0);
                }, 1, 20, 1, 1, -1);
        answers("two wet days are no mould", hung(0, 0, 30),
                x -> {
                    x.pass(2, 9);
                    return allAbout(x, 0);
                }, 1, 20, 1, 0, 30);
        answers("one with mould is drier than one without", hung(0, 0, 30),
                x -> {
                    x.pass(3, 9);
                    x.hang(0, 7, 0, 31);
                    return allAbout(x, 0);
                }, 1, 20, 2, 1, 31);
        answers("one with mould of another herb", hung(0, 0, 30),
                x -> {
                    x.pass(3, 9);
                    x.hang(0, 7, 1, 10);
                    return allAbout(x, 1);
                }, 1, 20, 1, 0, 10);
        answers("a drier one of another herb", hung(0, 0, 30),
                x -> {
                    x.hang(0, 7, 1, 10);
                    return allAbout(x, 0);
                }, 1, 20, 1, 0, 30);
        answers("the last one was taken", hung(0, 0, 30),
                x -> {
                    x.pass(3, 9);
                    x.take(0, 0);
                    return allAbout(x, 0);
                }, 1, 20, 0, 0, -1);
        answers("the last one was given", hung(0, 0, 30),
                x -> {
                    x.order(0, 1, 30);
                    x.fill();
                    return allAbout(x, 0);
                }, 1, 20, 0, 0, -1);
        changesNothing("it changes nothing", FULL, x -> x.about(5, 4));
    }

    private static void aboutRefused() {
        refuses("herb 0 without herbs", INDEX, EMPTY, x -> x.about(0, 0));
        refusesOutside("herb, of 1,", 0, 0, INDEX, ONE_HERB, (x, n) -> x.about(n, 0));
        refusesOutside("herb, of 6,", 0, 5, INDEX, FULL, (x, n) -> x.about(n, 0));
        refusesOutside("what", 0, 4, INDEX, FULL, (x, n) -> x.about(5, n));
        refusesOutside("what, of a herb without bundles,", 0, 4, INDEX, ONE_HERB, (x, n) -> x.about(0, n));
        refuses("herb and what both wrong", INDEX, FULL, x -> x.about(6, 5));
        endPromise();
    }

    private static void asked() {
        promise(13);
        answers("order 0 of a full loft", FULL, x -> allAsked(x, 0), 0, 9, 60, 0, 5);
        answers("order 5 of a full loft", FULL, x -> allAsked(x, 5), 5, 9, 60, 0, 4);
        answers("the least of all, no bundles", () -> withOrder(1, 0, hung()), x -> allAsked(x, 0), 0, 1, 0, 0, 0);
        answers("the greatest of all, no bundles", () -> withOrder(9, 60, hung()), x -> allAsked(x, 0), 0, 9, 60, 0, 0);
        answers("as wet as it may be", () -> withOrder(2, 40, hung(0, 0, 40)), x -> allAsked(x, 0), 0, 2, 40, 0, 1);
        answers("wetter by 1", () -> withOrder(2, 40, hung(0, 0, 41)), x -> allAsked(x, 0), 0, 2, 40, 0, 0);
        answers("0 of 0", () -> withOrder(2, 0, hung(0, 0, 0)), x -> allAsked(x, 0), 0, 2, 0, 0, 1);
        answers("60 of 60", () -> withOrder(2, 60, hung(0, 0, 60)), x -> allAsked(x, 0), 0, 2, 60, 0, 1);
        answers("61 of 60", () -> withOrder(2, 60, hung(0, 0, 61)), x -> allAsked(x, 0), 0, 2, 60, 0, 0);
        answers("wetness is cut: 40 and 41 are 40", () -> withOrder(2, 40, hung(0, 0, 41)),
                x -> {
                    x.pass(1, 0);
                    return allAsked(x, 0);
                }, 0, 2, 40, 0, 1);
        answers("two wet days are no mould", () -> withOrder(2, 40, hung(0, 0, 40)),
                x -> {
                    x.pass(2, 9);
                    return allAsked(x, 0);
                }, 0, 2, 40, 0, 1);
        answers("mould of 1", () -> withOrder(2, 40, hung(0, 0, 40)),
                x -> {
                    x.pass(3, 9);
                    return allAsked(x, 0);
                }, 0, 2, 40, 0, 0);
        answers("another herb", () -> withOrder(2, 40, hung()),
                x -> {
                    x.hang(0, 0, 1, 40);
                    return allAsked(x, 0);
                }, 0, 2, 40, 0, 0);
        answers("more fit than it is for", () -> withOrder(1, 40, hung(0, 0, 40, 2, 2, 0, 4, 7, 40)),
                x -> allAsked(x, 0), 0, 1, 40, 0, 3);
        answers("it got all, and none is left", () -> withOrder(1, 40, hung(0, 0, 40)),
                x -> {
                    x.fill();
                    return allAsked(x, 0);
                }, 0, 1, 40, 1, 0);
        answers("it got all, and more hang that fit", () -> withOrder(1, 40, hung(0, 0, 40, 2, 2, 40)),
                x -> {
                    x.fill();
                    return allAsked(x, 0);
                }, 0, 1, 40, 1, 1);
        answers("it got 1 of 2", () -> withOrder(2, 40, hung(0, 0, 40)),
                x -> {
                    x.fill();
                    return allAsked(x, 0);
                }, 0, 2, 40, 1, 0);
        answers("one bundle fits two orders", () -> withOrder(1, 40, hung(0, 0, 40)),
                x -> each(x.order(0, 1, 60), x.asked(0, 4), x.asked(1, 4)), 1, 1, 1);
        changesNothing("it changes nothing", FULL, x -> x.asked(5, 4));
    }

    private static void askedRefused() {
        refuses("order 0 of an empty loft", INDEX, EMPTY, x -> x.asked(0, 0));
        refuses("order 0 without orders", INDEX, SIX_HERBS, x -> x.asked(0, 0));
        refusesOutside("order, of 1,", 0, 0, INDEX, () -> withOrder(1, 40, hung()), (x, n) -> x.asked(n, 0));
        refusesOutside("order, of 6,", 0, 5, INDEX, FULL, (x, n) -> x.asked(n, 0));
        refusesOutside("what", 0, 4, INDEX, FULL, (x, n) -> x.asked(5, n));
        refuses("order and what both wrong", INDEX, FULL, x -> x.asked(6, 5));
        endPromise();
    }

    private static void count() {
        promise(14);
        answers("an empty loft", EMPTY, WhatThereIsBoundaryTest::allCounted, 0, 0, 0, 0, 0, 0, 0, 0, 0);
        answers("a full loft", FULL, WhatThereIsBoundaryTest::allCounted, 0, 6, 40, 0, 6, 0, 0, 0, 1960);
        answers("a full loft behind 60 days of damp 9", FULL, x -> {
            x.setWindow(0);
            x.pass(60, 9);
            return allCounted(x);
        }, 60, 6, 40, 28, 6, 0, 0, 0, 1960);
        answers("a full loft, filled", FULL, x -> {
            x.fill();
            return allCounted(x);
        }, 0, 6, 14, 0, 6, 0, 26, 0, 1050);
        answers("days: 1 and 60", EMPTY, x -> each(x.pass(1, 0), x.count(0), x.pass(60, 0), x.count(0)), 0, 1, 0, 61);
        answers("herbs: 1 and 6", EMPTY, x -> {
            x.herb(1, 20);
            long one = x.count(1);
            for (int i = 0; i < 5; i++) {
                x.herb(1, 20);
            }
            return each(one, x.count(1));
        }, 1, 6);
        answers("bundles: on the first hook and the last", hung(0, 0, 0, 4, 7, 0), x -> each(x.count(2)), 2);
        answers("mould: two wet days, then three", hung(0, 0, 30),
                x -> each(x.pass(2, 9), x.count(3), x.pass(1, 9), x.count(3)), 0, 0, 1, 1);
        answers("mould: all 40", hung(), x -> {
            for (int i = 0; i < 40; i++) {
                x.hang(i / 8, i % 8, 0, 100);
            }
            x.pass(60, 9);
            return each(x.count(2), x.count(3), x.count(8));
        }, 40, 40, 4000);
        answers("orders that got all: 1 of 2 is not all, 2 of 2 is", () -> withOrder(2, 40, hung(0, 0, 40)),
                x -> each(x.fill(), x.count(5), x.hang(0, 0, 0, 40), x.fill(), x.count(5), x.count(4), x.count(6)),
                1, 0, 1, 1, 1, 1, 2);
        answers("orders that got all: 9 of 9", () -> withOrder(9, 40, hung()), x -> {
            for (int i = 0; i < 9; i++) {
                x.hang(i / 8, i % 8, 0, 40);
            }
            return each(x.fill(), x.count(5), x.count(6));
        }, 9, 1, 9);
        answers("given in all: those taken off are not", () -> withOrder(2, 40, hung(0, 0, 40, 1, 1, 40)),
                x -> each(x.take(0, 0), x.fill(), x.count(6)), 40, 1, 1);
        answers("the window: 3", EMPTY, x -> each(x.setWindow(3), x.count(7)), 0, 3);
        answers("the sum: each wetness is cut", hung(0, 0, 50, 0, 2, 50), x -> each(x.pass(1, 0), x.count(8)), 0, 98);
        answers("the sum: dry ones only", hung(0, 0, 0, 0, 2, 0), x -> each(x.count(8)), 0);
        answers("the sum: without the one taken", hung(0, 0, 50, 0, 2, 60), x -> each(x.take(0, 0), x.count(8)), 50, 60);
        changesNothing("it changes nothing", FULL, x -> x.count(8));
    }

    private static void countRefused() {
        refusesOutside("what", 0, 8, INDEX, FULL, (x, n) -> x.count(n));
        refusesOutside("what, of an empty loft,", 0, 8, INDEX, EMPTY, (x, n) -> x.count(n));
        endPromise();
    }
}
