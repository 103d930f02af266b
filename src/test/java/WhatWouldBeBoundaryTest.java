import java.util.function.Supplier;

/** The boundary cases of promises 15 to 19. */
public final class WhatWouldBeBoundaryTest extends Boundary {
    public static void main(String[] args) {
        until();
        untilOfNeighbours();
        untilRefused();
        foresee();
        foreseeRefused();
        advise();
        adviseBySum();
        adviseByMould();
        adviseRefused();
        mean();
        digest();
        Check.end();
    }

    /** Herb 0 has this ease, and limit 90; bundles of it, each given as string, hook, wet. */
    private static Supplier<HerbLoft> hung(int ease, int... bundles) {
        return () -> {
            HerbLoft x = new HerbLoft();
            x.herb(ease, 90);
            for (int i = 0; i < bundles.length; i += 3) {
                x.hang(bundles[i], bundles[i + 1], 0, bundles[i + 2]);
            }
            return x;
        };
    }

    private static HerbLoft behind(int days, Supplier<HerbLoft> loft) {
        HerbLoft x = loft.get();
        x.pass(days, 0);
        return x;
    }

    private static void until() {
        promise(15);
        answers("as wet now: 0", hung(5, 2, 2, 50), x -> each(x.until(2, 2, 50, 0)), 0);
        answers("drier now by 1: 0", hung(5, 2, 2, 50), x -> each(x.until(2, 2, 51, 0)), 0);
        answers("wetter now by 1: 1", hung(5, 2, 2, 50), x -> each(x.until(2, 2, 49, 0)), 1);
        answers("just as wet behind 1 day", hung(5, 2, 2, 50), x -> each(x.until(2, 2, 45, 0)), 1);
        answers("just not behind 1 day", hung(5, 2, 2, 50), x -> each(x.until(2, 2, 44, 0)), 2);
        answers("wet 100 of 100", hung(5, 2, 2, 100), x -> each(x.until(2, 2, 100, 9)), 0);
        answers("wet 99 of 100", hung(5, 2, 2, 100), x -> each(x.until(2, 2, 99, 0)), 1);
        answers("wet 0 of 0", hung(5, 2, 2, 0), x -> each(x.until(2, 2, 0, 9)), 0);
        answers("wet 0 of 1", hung(5, 2, 2, 1), x -> each(x.until(2, 2, 0, 0)), 1);
        answers("wet 0 of 4, force 2: 0 and 1 are 0", hung(2, 0, 0, 4), x -> each(x.until(0, 0, 0, 0)), 3);
        // Force 2: behind n of 50 days or more the front is dry, the back less by n.
        answers("89 days", hung(2, 0, 0, 98), x -> each(x.until(0, 0, 4, 0)), 89);
        answers("90 days", hung(2, 0, 0, 99), x -> each(x.until(0, 0, 4, 0)), 90);
        answers("91 days are too many", hung(2, 0, 0, 100), x -> each(x.until(0, 0, 4, 0)), -1);
        answers("91 days, of which one has gone", () -> behind(1, hung(2, 0, 0, 100)),
                x -> each(x.until(0, 0, 4, 0)), 90);
        answers("never, without force", hung(4, 0, 0, 50), x -> each(x.until(0, 0, 49, 4)), -1);
        answers("without force, dry enough now", hung(4, 0, 0, 50), x -> each(x.until(0, 0, 50, 4)), 0);
        answers("damp 0", hung(9, 1, 0, 50), x -> each(x.until(1, 0, 42, 0)), 1);
        answers("damp 9", hung(9, 1, 0, 50), x -> each(x.until(1, 0, 42, 9)), 15);
        answers("the window open by 3", hung(9, 0, 0, 50), x -> each(x.setWindow(3), x.until(0, 0, 39, 0)), 0, 1);
        answers("string 0, hook 0 of a full loft", FULL, x -> each(x.until(0, 0, 10, 0), x.until(0, 0, 9, 9)), 0, -1);
        answers("string 4, hook 7 of a full loft", FULL, x -> each(x.until(4, 7, 88, 9), x.until(4, 7, 82, 0)), 0, 1);
        answers("an empty loft", EMPTY, x -> each(x.until(0, 0, 0, 0), x.until(4, 7, 100, 9)), -1, -1);
        answers("an empty hook beside a bundle", hung(5, 2, 2, 50),
                x -> each(x.until(2, 3, 100, 0), x.until(2, 1, 100, 0), x.until(1, 2, 100, 0)), -1, -1, -1);
        answers("a hook whose bundle was taken", hung(5, 2, 2, 0), x -> each(x.take(2, 2), x.until(2, 2, 100, 0)), 0, -1);
        answers("a hook whose bundle was taken since the last until", hung(5, 2, 2, 0),
                x -> each(x.until(2, 2, 50, 0), x.take(2, 2), x.until(2, 2, 50, 0)), 0, 0, -1);
        answers("twice the same", hung(5, 2, 2, 50), x -> each(x.until(2, 2, 30, 0), x.until(2, 2, 30, 0)), 4, 4);
        changesNothing("90 days change nothing", FULL, x -> x.until(0, 0, 0, 9));
        changesNothing("a few days change nothing", FULL, x -> x.until(4, 7, 10, 0));
        changesNothing("no bundle, nothing changed", hung(5, 2, 2, 50), x -> x.until(2, 3, 0, 0));
    }

    private static void untilOfNeighbours() {
        answers("alone", hung(3, 0, 0, 50), x -> each(x.until(0, 0, 48, 0), x.until(0, 0, 46, 0)), 1, 2);
        answers("beside a wetter one", hung(3, 0, 0, 50, 0, 1, 99), x -> each(x.until(0, 0, 46, 0)), 3);
        answers("beside two wetter ones", hung(3, 0, 0, 99, 0, 1, 50, 0, 2, 99), x -> each(x.until(0, 1, 46, 0)), 7);
        answers("beside a drier one", hung(3, 0, 0, 50, 0, 1, 49), x -> each(x.until(0, 0, 46, 0)), 2);
        // Force 4, or 3 beside a wetter one: on the first day alone it is so here.
        answers("beside one that is wetter for a day", hung(4, 0, 0, 50),
                x -> each(x.herb(9, 90), x.until(0, 0, 41, 0), x.hang(0, 1, 1, 51), x.until(0, 0, 41, 0)), 1, 3, 2, 4);
        answers("beside one that is wetter on all days", hung(4, 0, 0, 50, 0, 1, 99),
                x -> each(x.until(0, 0, 41, 0)), 5);
        answers("beside a wetter one of the next string", hung(3, 0, 7, 50, 1, 0, 99),
                x -> each(x.until(0, 7, 46, 0)), 2);
    }

    private static void untilRefused() {
        refusesOutside("string", 0, 4, INDEX, FULL, (x, n) -> x.until(n, 0, 50, 0));
        refusesOutside("hook", 0, 7, INDEX, FULL, (x, n) -> x.until(2, n, 50, 0));
        refusesOutside("hook of string 0", 0, 7, INDEX, FULL, (x, n) -> x.until(0, n, 50, 0));
        refusesOutside("hook of string 4", 0, 7, INDEX, FULL, (x, n) -> x.until(4, n, 50, 0));
        refusesOutside("wet", 0, 100, ARGUMENT, FULL, (x, n) -> x.until(2, 3, n, 0));
        refusesOutside("damp", 0, 9, ARGUMENT, FULL, (x, n) -> x.until(2, 3, 50, n));
        refusesOutside("wet, of an empty hook,", 0, 100, ARGUMENT, EMPTY, (x, n) -> x.until(2, 3, n, 0));
        refusesOutside("damp, of an empty hook,", 0, 9, ARGUMENT, EMPTY, (x, n) -> x.until(2, 3, 50, n));
        refuses("damp 10, dry enough now", ARGUMENT, FULL, x -> x.until(0, 0, 100, 10));
        refuses("wet and damp both wrong", ARGUMENT, FULL, x -> x.until(2, 3, 101, 10));
        refuses("no such string before wet 101", INDEX, FULL, x -> x.until(5, 0, 101, 0));
        refuses("no such hook before wet -1", INDEX, FULL, x -> x.until(0, 8, -1, 0));
        refuses("no such string before damp 10", INDEX, FULL, x -> x.until(-1, 0, 50, 10));
        refuses("no such hook before damp -1", INDEX, FULL, x -> x.until(0, -1, 50, -1));
        refuses("no such string before wet and damp, in an empty loft", INDEX, EMPTY, x -> x.until(5, 8, 101, 10));
        endPromise();
    }

    private static void foresee() {
        promise(16);
        answers("an empty loft", EMPTY, x -> each(x.foresee(60, 9, 3), x.foresee(1, 0, 8)), 0, 0);
        answers("1 day", hung(5, 0, 0, 50), x -> each(x.foresee(1, 0, 8), x.foresee(2, 0, 8)), 46, 43);
        // Force 2: the front is dry, the back less by 1 each day.
        answers("60 days", hung(2, 0, 0, 99), x -> each(x.foresee(59, 0, 8), x.foresee(60, 0, 8)), 20, 19);
        answers("damp 0 and damp 9", hung(9, 1, 0, 50), x -> each(x.foresee(1, 0, 8), x.foresee(1, 9, 8)), 42, 49);
        answers("damp 1 and damp 8", hung(9, 1, 0, 50), x -> each(x.foresee(1, 1, 8), x.foresee(1, 8, 8)), 43, 48);
        answers("mould behind 2 and 3 days", hung(1, 0, 0, 100),
                x -> each(x.foresee(2, 9, 3), x.foresee(3, 9, 3)), 0, 1);
        answers("mould that is there", hung(1, 0, 0, 100), x -> each(x.pass(3, 9), x.foresee(1, 9, 3)), 1, 1);
        answers("mould that goes on to a neighbour", hung(1, 0, 0, 100, 0, 1, 0),
                x -> each(x.foresee(5, 9, 3), x.foresee(6, 9, 3)), 1, 2);
        answers("mould 3 that is there goes on the day behind", hung(1, 0, 0, 100),
                x -> each(x.pass(5, 9), x.hang(0, 1, 0, 0), x.foresee(1, 9, 3)), 1, 2, 2);
        answers("mould 2 that is there goes on a day later", hung(1, 0, 0, 100),
                x -> each(x.pass(4, 9), x.hang(0, 1, 0, 0), x.foresee(1, 9, 3), x.foresee(2, 9, 3)), 1, 2, 1, 2);
        answers("a wetter neighbour", hung(5, 0, 0, 50),
                x -> each(x.foresee(1, 4, 8), x.hang(0, 1, 0, 60), x.foresee(1, 4, 8)), 49, 2, 109);
        answers("the window open by 3", hung(9, 0, 0, 50), x -> each(x.setWindow(3), x.foresee(1, 0, 8)), 0, 39);
        answers("a full loft", FULL,
                x -> each(x.foresee(60, 9, 3), x.foresee(60, 9, 8), x.foresee(1, 6, 3), x.foresee(1, 6, 8)),
                28, 1960, 0, 1947);
        answers("all 40 with mould", () -> {
            HerbLoft x = new HerbLoft();
            x.herb(1, 20);
            for (int i = 0; i < 40; i++) {
                x.hang(i / 8, i % 8, 0, 100);
            }
            return x;
        }, x -> each(x.foresee(3, 9, 3), x.foresee(3, 9, 8), x.count(3)), 40, 4000, 0);
        answers("it comes true", FULL, x -> {
            long mouldy = x.foresee(17, 3, 3);
            long sum = x.foresee(17, 3, 8);
            return each(x.pass(17, 3) - mouldy, x.count(3) - mouldy, x.count(8) - sum);
        }, 0, 0, 0);
        answers("a bundle taken since the last foresee", hung(5, 0, 0, 50),
                x -> each(x.foresee(1, 0, 8), x.take(0, 0), x.foresee(1, 0, 8)), 46, 50, 0);
        answers("twice the same", FULL, x -> each(x.foresee(60, 0, 8) - x.foresee(60, 0, 8)), 0);
        changesNothing("60 days change nothing, mould", FULL, x -> x.foresee(60, 9, 3));
        changesNothing("60 days change nothing, the sum", FULL, x -> x.foresee(60, 0, 8));
        changesNothing("no bundles, nothing changed", EMPTY, x -> x.foresee(60, 0, 8));
    }

    private static void foreseeRefused() {
        refusesOutside("days", 1, 60, ARGUMENT, FULL, (x, n) -> x.foresee(n, 0, 3));
        refusesOutside("damp", 0, 9, ARGUMENT, FULL, (x, n) -> x.foresee(1, n, 3));
        refusesOutside("what, around 3,", 3, 3, INDEX, FULL, (x, n) -> x.foresee(1, 0, n));
        refusesOutside("what, around 8,", 8, 8, INDEX, FULL, (x, n) -> x.foresee(1, 0, n));
        for (int what : new int[] {-1, 0, 1, 5, 6, 10}) {
            refuses("what " + what, INDEX, FULL, x -> x.foresee(1, 0, what));
        }
        refuses("no days in an empty loft", ARGUMENT, EMPTY, x -> x.foresee(0, 0, 3));
        refuses("damp 10 in an empty loft", ARGUMENT, EMPTY, x -> x.foresee(1, 10, 8));
        refuses("what 4 in an empty loft", INDEX, EMPTY, x -> x.foresee(1, 0, 4));
        refuses("days and damp both wrong", ARGUMENT, FULL, x -> x.foresee(61, 10, 3));
        refuses("days 0 before what 2", ARGUMENT, FULL, x -> x.foresee(0, 0, 2));
        refuses("days 61 before what 9", ARGUMENT, FULL, x -> x.foresee(61, 0, 9));
        refuses("damp -1 before what 4", ARGUMENT, FULL, x -> x.foresee(1, -1, 4));
        refuses("damp 10 before what 7", ARGUMENT, FULL, x -> x.foresee(1, 10, 7));
        endPromise();
    }

    /**
     * So many bundles on each string, front 0 and back 12: the ease of each string's herb makes a
     * force of 5 of it. To turn a string makes the sum behind a day of damp 0 less by 2 for each.
     */
    private static HerbLoft alike(int... bundles) {
        HerbLoft x = new HerbLoft();
        for (int string = 0; string < 5; string++) {
            x.herb(5 - string, 90);
            for (int i = 0; i < bundles[string]; i++) {
                x.hang(string, 2 * i, string, 20);
            }
        }
        x.pass(4, 0);
        return x;
    }

    private static void advise() {
        promise(17);
        answers("an empty loft", EMPTY, x -> each(x.advise(1, 0), x.advise(30, 9)), -1, -1);
        answers("a full loft, both sides alike", FULL, x -> each(x.advise(1, 0), x.advise(30, 9)), -1, -1);
        answers("all strings alike: the smallest number", () -> alike(1, 1, 1, 1, 1), x -> each(x.advise(1, 0)), 0);
        answers("strings 1 to 4 alike", () -> alike(0, 1, 1, 1, 1), x -> each(x.advise(1, 0)), 1);
        answers("strings 3 and 4 alike", () -> alike(0, 0, 0, 1, 1), x -> each(x.advise(1, 0)), 3);
        answers("string 0 alone", () -> alike(1, 0, 0, 0, 0), x -> each(x.advise(1, 0)), 0);
        answers("string 4 alone", () -> alike(0, 0, 0, 0, 1), x -> each(x.advise(1, 0)), 4);
        answers("string 4 is better", () -> alike(1, 1, 1, 1, 2), x -> each(x.advise(1, 0)), 4);
        answers("string 0 is better", () -> alike(2, 1, 1, 1, 1), x -> each(x.advise(1, 0)), 0);
        answers("string 2 is better", () -> alike(1, 1, 2, 1, 1), x -> each(x.advise(1, 0)), 2);
        answers("the smallest of the better ones", () -> alike(1, 1, 2, 1, 2), x -> each(x.advise(1, 0)), 2);
        answers("each better than the one before", () -> alike(0, 1, 2, 3, 4), x -> each(x.advise(1, 0)), 4);
        answers("each worse than the one before", () -> alike(4, 3, 2, 1, 0), x -> each(x.advise(1, 0)), 0);
        answers("it is turned already", () -> alike(0, 0, 1, 0, 0), x -> each(x.turn(2), x.advise(1, 0)), 1, -1);
        answers("all but one are turned already", () -> alike(1, 1, 1, 1, 1),
                x -> each(x.turn(0), x.turn(1), x.turn(2), x.turn(4), x.advise(1, 0)), 1, 1, 1, 1, 3);
        answers("twice the same", () -> alike(0, 1, 2, 1, 0), x -> each(x.advise(1, 0), x.advise(1, 0)), 2, 2);
        changesNothing("30 days change nothing", () -> alike(0, 1, 2, 1, 0), x -> x.advise(30, 4));
        changesNothing("nothing is turned", () -> alike(1, 1, 1, 1, 1), x -> x.advise(1, 0));
        changesNothing("a full loft is not changed", FULL, x -> x.advise(30, 0));
    }

    // One bundle with a dry front and some in the back: turned or not, it dries on one side.
    private static void adviseBySum() {
        answers("a sum less by 1: back 12, force 1", () -> behind(4, hung(5, 0, 0, 20)),
                x -> each(x.told(0, 0, 1), x.told(0, 0, 2), x.advise(1, 4)), 0, 12, 0);
        answers("the same sum, since it is cut: back 11, force 1", () -> behind(5, hung(5, 0, 0, 21)),
                x -> each(x.told(0, 0, 1), x.told(0, 0, 2), x.advise(1, 4)), 0, 11, -1);
        answers("the same sum: a wetter neighbour takes the force of 1", () -> behind(4, hung(5, 0, 0, 20)),
                x -> each(x.hang(0, 1, 0, 100), x.advise(1, 4), x.take(0, 1), x.advise(1, 4)), 2, -1, 100, 0);
        answers("a sum less by 1: a neighbour as wet takes no force", () -> behind(4, hung(5, 0, 0, 20)),
                x -> each(x.hang(0, 1, 0, 6), x.advise(1, 4)), 2, 0);
        answers("the same sum, without force", () -> behind(4, hung(5, 0, 0, 20)), x -> each(x.advise(1, 5)), -1);
        answers("a greater sum", () -> behind(4, hung(5, 0, 0, 20)), x -> each(x.turn(0), x.advise(1, 4)), 1, -1);
        answers("damp 0, force 9", () -> behind(6, hung(9, 0, 0, 50)),
                x -> each(x.told(0, 0, 1), x.told(0, 0, 2), x.advise(1, 0)), 0, 26, 0);
        answers("damp 9, force 1", () -> behind(6, hung(9, 1, 0, 50)),
                x -> each(x.told(1, 0, 1), x.told(1, 0, 2), x.advise(1, 9)), 0, 20, 1);
        answers("damp 9, no force", () -> behind(6, hung(9, 0, 0, 50)), x -> each(x.advise(1, 9)), -1);
        // Force 2: a back of b is b - n behind n days; turned, it is dry by then.
        answers("1 day: back 3", () -> behind(3, hung(2, 0, 0, 6)),
                x -> each(x.told(0, 0, 1), x.told(0, 0, 2), x.advise(1, 0), x.advise(2, 0)), 0, 3, 0, -1);
        answers("1 day: back 2", () -> behind(2, hung(2, 0, 0, 4)),
                x -> each(x.told(0, 0, 1), x.told(0, 0, 2), x.advise(1, 0)), 0, 2, -1);
        answers("30 days: back 32", () -> behind(32, hung(2, 0, 0, 64)),
                x -> each(x.told(0, 0, 1), x.told(0, 0, 2), x.advise(30, 0)), 0, 32, 0);
        answers("30 days: back 31", () -> behind(31, hung(2, 0, 0, 62)),
                x -> each(x.told(0, 0, 1), x.told(0, 0, 2), x.advise(29, 0), x.advise(30, 0)), 0, 31, 0, -1);
        answers("damp 8: no force until the window is open by 3", () -> behind(4, hung(5, 0, 0, 20)),
                x -> each(x.advise(1, 8), x.setWindow(3), x.advise(1, 8)), -1, 0, 0);
    }

    /**
     * On strings 3 and 4 a bundle of limit 20, front 16, back 52, mould 2, beside a dry one. As it
     * hangs it is at 21 tomorrow, and its mould of 3 goes on the day behind; turned it is at 20.
     * Turning makes the sum behind two days less by 9. On strings 0 and 4 so many bundles, of
     * limit 90, for which turning makes it less by 7 and by 9.
     */
    private static HerbLoft mouldy(int onString0, int onString4) {
        HerbLoft x = new HerbLoft();
        x.herb(9, 20);
        x.herb(8, 20);
        x.herb(8, 90);
        x.setWindow(3);
        hangMouldy(x, onString0, onString4);
        x.pass(4, 0);
        return x;
    }

    private static void hangMouldy(HerbLoft x, int onString0, int onString4) {
        x.hang(3, 0, 0, 88);
        x.hang(3, 1, 2, 0);
        x.hang(4, 0, 1, 88);
        x.hang(4, 1, 2, 0);
        for (int i = 0; i < onString0; i++) {
            x.hang(0, i, 2, 70);
        }
        for (int i = 0; i < onString4; i++) {
            x.hang(4, 3 + 2 * i, 2, 88);
        }
    }

    /**
     * On string 4 a bundle of limit 20, front 54, back 14, mould 2, and so many of limit 90 with
     * front 14, back 54. Turned, the first one's mould goes on, and its wetness behind two days is
     * 10 more; that of each other one is 10 less.
     */
    private static HerbLoft mouldyIfTurned(int others, boolean besideIt) {
        HerbLoft x = new HerbLoft();
        x.herb(9, 20);
        x.herb(9, 90);
        x.setWindow(3);
        x.hang(4, 0, 0, 90);
        if (besideIt) {
            x.hang(4, 1, 1, 0);
        }
        for (int i = 0; i < others; i++) {
            x.hang(4, 3 + 2 * i, 1, 90);
        }
        x.pass(4, 0);
        x.move(4, 0, 3, 0);
        x.turn(3);
        x.move(3, 0, 4, 0);
        return x;
    }

    /**
     * As mouldy(3, 0) is, but that a dry bundle with a mould of 9 hangs on the other side of each
     * dry one, whose mould it will be, turned or not.
     */
    private static HerbLoft mouldyAnyhow() {
        HerbLoft x = new HerbLoft();
        x.herb(9, 20);
        x.herb(8, 20);
        x.herb(8, 90);
        x.hang(2, 0, 0, 100);
        x.hang(2, 4, 0, 100);
        x.pass(20, 9);
        x.setWindow(3);
        x.pass(20, 0);
        hangMouldy(x, 3, 0);
        x.pass(4, 0);
        x.move(2, 0, 3, 2);
        x.move(2, 4, 4, 2);
        return x;
    }

    private static void adviseByMould() {
        answers("as they hang: mould and sum", () -> mouldy(0, 0),
                x -> each(x.count(3), x.foresee(2, 0, 3), x.foresee(2, 0, 8)), 2, 4, 34);
        answers("as many less with mould, the same sum: the smaller number", () -> mouldy(0, 0),
                x -> each(x.advise(2, 0)), 3);
        answers("as many less with mould, a smaller sum", () -> mouldy(0, 1), x -> each(x.advise(2, 0)), 4);
        answers("fewer with mould before a sum less by 21", () -> mouldy(3, 0), x -> each(x.advise(2, 0)), 3);
        answers("fewer with mould before a sum less by 56", () -> mouldy(8, 0), x -> each(x.advise(2, 0)), 3);
        answers("no neighbours to get mould: the smallest sum", () -> mouldy(3, 0),
                x -> each(x.take(3, 1), x.take(4, 1), x.advise(2, 0)), 0, 0, 0);
        answers("mould of 9 that goes on anyhow: the smallest sum", () -> mouldyAnyhow(),
                x -> each(x.told(3, 2, 5), x.told(4, 2, 5), x.count(3), x.foresee(2, 0, 3), x.advise(2, 0)),
                9, 9, 4, 6, 0);
        answers("mould of 3 that goes on, turned or not: none", hung(1, 0, 0, 100),
                x -> each(x.pass(5, 9), x.hang(0, 1, 0, 0), x.foresee(1, 9, 3), x.advise(1, 9)), 1, 2, 2, -1);
        answers("mould of 9 that goes on, turned or not: a smaller sum", hung(1, 0, 0, 100),
                x -> each(x.pass(20, 9), x.herb(4, 90), x.hang(1, 0, 1, 20), x.pass(4, 0), x.hang(0, 1, 0, 0),
                        x.foresee(1, 4, 3), x.advise(1, 4)),
                1, 1, 2, 1, 3, 2, 1);
        answers("more with mould, a smaller sum: none", () -> mouldyIfTurned(2, true),
                x -> each(x.foresee(2, 0, 3), x.foresee(2, 0, 8), x.advise(2, 0), x.turn(4), x.foresee(2, 0, 3),
                        x.foresee(2, 0, 8)),
                1, 44, -1, 4, 2, 34);
        answers("as many with mould, a smaller sum", () -> mouldyIfTurned(2, false), x -> each(x.advise(2, 0)), 4);
        answers("as many with mould, the same sum: none", () -> mouldyIfTurned(1, false), x -> each(x.advise(2, 0)), -1);
        answers("as many with mould, a greater sum: none", () -> mouldyIfTurned(0, false),
                x -> each(x.advise(2, 0)), -1);
        answers("fewer with mould, a greater sum", () -> mouldyIfTurned(2, true),
                x -> each(x.turn(4), x.foresee(2, 0, 3), x.foresee(2, 0, 8), x.advise(2, 0)), 4, 2, 34, 4);
    }

    private static void adviseRefused() {
        refusesOutside("days", 1, 30, ARGUMENT, FULL, (x, n) -> x.advise(n, 0));
        refusesOutside("damp", 0, 9, ARGUMENT, FULL, (x, n) -> x.advise(1, n));
        refuses("60 days, as many as may pass", ARGUMENT, FULL, x -> x.advise(60, 0));
        refuses("days and damp both wrong", ARGUMENT, FULL, x -> x.advise(31, 10));
        refuses("no days in an empty loft", ARGUMENT, EMPTY, x -> x.advise(0, 0));
        refuses("31 days in an empty loft", ARGUMENT, EMPTY, x -> x.advise(31, 0));
        refuses("damp 10 in an empty loft", ARGUMENT, EMPTY, x -> x.advise(1, 10));
        endPromise();
    }

    private static void mean() {
        promise(18);
        isMean("an empty loft", EMPTY, 0.0);
        isMean("herbs, no bundles", SIX_HERBS, 0.0);
        isMean("one dry bundle", hung(5, 2, 2, 0), 0.0);
        isMean("one bundle wet by 100", hung(5, 2, 2, 100), 100.0);
        isMean("0 and 1", hung(5, 0, 0, 0, 4, 7, 1), 0.5);
        isMean("0, 0 and 1", hung(5, 0, 0, 0, 2, 2, 0, 4, 7, 1), 1.0 / 3.0);
        isMean("0, 1 and 1", hung(5, 0, 0, 0, 2, 2, 1, 4, 7, 1), 2.0 / 3.0);
        isMean("each wetness is cut: 49 and 50 are 49", () -> behind(1, hung(1, 0, 0, 50, 0, 2, 50)), 49.0);
        isMean("a full loft", FULL, 49.0);
        isMean("a full loft but for one", () -> {
            HerbLoft x = FULL.get();
            x.take(4, 7);
            return x;
        }, 48.0);
        isMean("the last bundle was taken", () -> {
            HerbLoft x = hung(5, 2, 2, 50).get();
            x.take(2, 2);
            return x;
        }, 0.0);
        isMean("the last bundle was given", () -> {
            HerbLoft x = hung(5, 2, 2, 50).get();
            x.order(0, 1, 50);
            x.fill();
            return x;
        }, 0.0);
        isMean("mouldy ones count, too", () -> {
            HerbLoft x = hung(1, 0, 0, 100, 0, 2, 0).get();
            x.pass(3, 9);
            return x;
        }, 50.0);
        changesNothing("it changes nothing", FULL, x -> x.mean());
        endPromise();
    }

    // The numbers were reckoned from the document by a program of another language.
    private static void digest() {
        promise(19);
        answers("an empty loft", EMPTY, x -> each(x.digest()), 6379568251695175609L);
        answers("one herb", ONE_HERB, x -> each(x.digest()), 8530904623442355540L);
        answers("a bundle on the first hook", ONE_HERB, x -> each(x.hang(0, 0, 0, 100), x.digest()),
                1, 3674611052467141945L);
        answers("a bundle on the last hook", ONE_HERB, x -> each(x.hang(4, 7, 0, 100), x.digest()),
                1, 6561850946756145721L);
        answers("an order", ONE_HERB, x -> each(x.order(0, 1, 60), x.digest()), 0, 2069503372272945416L);
        answers("the window open by 3", EMPTY, x -> each(x.setWindow(3), x.digest()), 0, 6300402616381690390L);
        answers("the day 60", EMPTY, x -> each(x.pass(60, 0), x.digest()), 0, 5338544828904444917L);
        answers("a full loft, less than 0 as it wraps around", FULL, x -> each(x.digest()), -5854698911781774125L);
        answers("a full loft, seven days later", FULL, x -> each(x.setWindow(3), x.pass(7, 2), x.digest()),
                0, 14, -3862914259812000267L);
        answers("a full loft, seven days later and filled", FULL,
                x -> each(x.setWindow(3), x.pass(7, 2), x.fill(), x.digest()), 0, 14, 26, 3110321635902484885L);
        answers("twice the same", FULL, x -> each(x.digest() - x.digest()), 0);
        changesNothing("it changes nothing", FULL, x -> x.digest());
        endPromise();
    }
}
