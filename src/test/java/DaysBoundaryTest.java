import java.util.function.Supplier;

/** The boundary cases of promise 10, and of a day as the terms tell it. */
public final class DaysBoundaryTest extends Boundary {
    private static final Supplier<HerbLoft> SIX_HERBS_HUNG = () -> {
        HerbLoft x = SIX_HERBS.get();
        x.hang(0, 0, 0, 50);
        x.hang(0, 5, 5, 50);
        return x;
    };

    public static void main(String[] args) {
        pass();
        passRefused();
        force();
        wetterNeighbours();
        sides();
        wetDays();
        mouldGrows();
        mouldGoesOn();
        mouldDoesNotGoOn();
        mouldThatIsThere();
        Check.end();
    }

    /** Herb 0 has this ease and limit; bundles of it, each given as string, hook, wet. */
    private static Supplier<HerbLoft> hung(int ease, int limit, int... bundles) {
        return () -> {
            HerbLoft x = new HerbLoft();
            x.herb(ease, limit);
            for (int i = 0; i < bundles.length; i += 3) {
                x.hang(bundles[i], bundles[i + 1], 0, bundles[i + 2]);
            }
            return x;
        };
    }

    /** A case of front and back of one bundle behind one day of some damp. */
    private static void day(
            String name, Supplier<HerbLoft> loft, int damp, int string, int hook, int front, int back) {
        answers(name, loft, x -> {
            x.pass(1, damp);
            return each(x.told(string, hook, 1), x.told(string, hook, 2));
        }, front, back);
    }

    /** A case of wet days and mould of the bundle on the first hook behind days of damp 9. */
    private static void damp(String name, Supplier<HerbLoft> loft, int days, int wetDays, int mould) {
        answers(name, loft, x -> {
            x.pass(days, 9);
            return each(x.told(0, 0, 4), x.told(0, 0, 5));
        }, wetDays, mould);
    }

    private static HerbLoft withWindow(int open, Supplier<HerbLoft> loft) {
        HerbLoft x = loft.get();
        x.setWindow(open);
        return x;
    }

    private static void pass() {
        promise(10);
        answers("1 day", hung(1, 90, 0, 0, 100), x -> each(x.pass(1, 0), x.count(0), x.told(0, 0, 1)), 0, 1, 99);
        answers("2 days", hung(1, 90, 0, 0, 100), x -> each(x.pass(2, 0), x.count(0), x.told(0, 0, 1)), 0, 2, 98);
        answers("59 days", hung(1, 90, 0, 0, 90), x -> each(x.pass(59, 0), x.count(0), x.told(0, 0, 1)), 0, 59, 31);
        answers("60 days", hung(1, 90, 0, 0, 90), x -> each(x.pass(60, 0), x.count(0), x.told(0, 0, 1)), 0, 60, 30);
        answers("60 days and 1", hung(1, 90, 0, 0, 90),
                x -> each(x.pass(60, 0), x.pass(1, 0), x.count(0), x.told(0, 0, 1)), 0, 0, 61, 29);
        answers("60 days at once are 60 days one by one", FULL, x -> {
            x.pass(60, 2);
            HerbLoft y = FULL.get();
            for (int i = 0; i < 60; i++) {
                y.pass(1, 2);
            }
            return each(x.digest() - y.digest());
        }, 0);
        day("damp 0", hung(9, 90, 1, 0, 50), 0, 1, 0, 40, 45);
        day("damp 1", hung(9, 90, 1, 0, 50), 1, 1, 0, 41, 46);
        day("damp 8", hung(9, 90, 1, 0, 50), 8, 1, 0, 48, 49);
        day("damp 9", hung(9, 90, 1, 0, 50), 9, 1, 0, 49, 50);
        answers("an empty loft", EMPTY, x -> each(x.pass(60, 9), x.count(0), x.count(2)), 0, 60, 0);
        answers("none with mould", hung(1, 20, 0, 0, 100), x -> each(x.pass(2, 9)), 0);
        answers("it counts old mould, too", hung(1, 20, 0, 0, 100, 0, 2, 20, 0, 4, 100),
                x -> each(x.pass(3, 9), x.pass(1, 9), x.take(0, 0), x.pass(1, 9)), 2, 2, 100, 1);
        answers("all 40 with mould", () -> {
            HerbLoft x = new HerbLoft();
            x.herb(1, 20);
            for (int i = 0; i < 40; i++) {
                x.hang(i / 8, i % 8, 0, 100);
            }
            return x;
        }, x -> each(x.pass(2, 9), x.pass(1, 9), x.count(3), x.count(8)), 0, 40, 40, 4000);
        answers("a full loft, 1 day: no force on string 0, some at the roof", FULL,
                x -> each(x.pass(1, 6), x.told(0, 0, 1), x.told(4, 7, 1), x.told(4, 6, 1)), 0, 10, 86, 86);
    }

    private static void passRefused() {
        refusesOutside("days", 1, 60, ARGUMENT, FULL, (x, n) -> x.pass(n, 0));
        refusesOutside("damp", 0, 9, ARGUMENT, FULL, (x, n) -> x.pass(1, n));
        refuses("days and damp both wrong", ARGUMENT, FULL, x -> x.pass(0, 10));
        refuses("no days in an empty loft", ARGUMENT, EMPTY, x -> x.pass(0, 0));
        refuses("61 days in an empty loft", ARGUMENT, EMPTY, x -> x.pass(61, 0));
        refuses("damp 10 in an empty loft", ARGUMENT, EMPTY, x -> x.pass(1, 10));
    }

    private static void force() {
        day("force less than 0 is 0", hung(3, 90, 0, 0, 50), 4, 0, 0, 50, 50);
        day("the least that a force could be", hung(1, 90, 0, 0, 100, 0, 1, 50, 0, 2, 100), 9, 0, 1, 50, 50);
        day("force 0", hung(4, 90, 0, 0, 50), 4, 0, 0, 50, 50);
        day("force 1, half is 0", hung(5, 90, 0, 0, 50), 4, 0, 0, 49, 50);
        day("force 2, half is 1", hung(6, 90, 0, 0, 50), 4, 0, 0, 48, 49);
        day("force 3, half is 1", hung(7, 90, 0, 0, 50), 4, 0, 0, 47, 49);
        day("the greatest force, 19", () -> withWindow(3, hung(9, 90, 4, 7, 100)), 0, 4, 7, 81, 91);
        day("string 0", hung(2, 90, 0, 7, 50), 0, 0, 7, 48, 49);
        day("string 1", hung(2, 90, 1, 7, 50), 0, 1, 7, 47, 49);
        day("string 4", hung(2, 90, 4, 7, 50), 0, 4, 7, 44, 47);
        day("window 0", () -> withWindow(0, hung(2, 90, 0, 0, 50)), 0, 0, 0, 48, 49);
        day("window 1", () -> withWindow(1, hung(2, 90, 0, 0, 50)), 0, 0, 0, 46, 48);
        day("window 3", () -> withWindow(3, hung(2, 90, 0, 0, 50)), 0, 0, 0, 42, 46);
        day("ease 1 of herb 0 of 6", SIX_HERBS_HUNG, 0, 0, 0, 49, 50);
        day("ease 6 of herb 5 of 6", SIX_HERBS_HUNG, 0, 0, 5, 44, 47);
    }

    private static void wetterNeighbours() {
        day("a neighbour as wet is not wetter", hung(5, 90, 0, 0, 50, 0, 1, 50), 0, 0, 0, 45, 48);
        day("a neighbour wetter by 1", hung(5, 90, 0, 0, 50, 0, 1, 51), 0, 0, 0, 46, 48);
        day("a neighbour drier by 1", hung(5, 90, 0, 0, 50, 0, 1, 49), 0, 0, 0, 45, 48);
        day("a neighbour wetter by 80 counts 1, too", hung(5, 90, 0, 0, 20, 0, 1, 100), 0, 0, 0, 16, 18);
        day("two wetter neighbours", hung(5, 90, 0, 0, 51, 0, 1, 50, 0, 2, 100), 0, 0, 1, 47, 49);
        day("a wetter and a drier neighbour", hung(5, 90, 0, 0, 49, 0, 1, 50, 0, 2, 51), 0, 0, 1, 46, 48);
        day("force 1 and two wetter neighbours: 0", hung(1, 90, 0, 0, 51, 0, 1, 50, 0, 2, 51), 0, 0, 1, 50, 50);
        day("force 2 and two wetter neighbours: 0", hung(2, 90, 0, 0, 51, 0, 1, 50, 0, 2, 51), 0, 0, 1, 50, 50);
        day("force 3 and two wetter neighbours: 1", hung(3, 90, 0, 0, 51, 0, 1, 50, 0, 2, 51), 0, 0, 1, 49, 50);
        day("hook 0 beside hook 1", hung(5, 90, 2, 0, 50, 2, 1, 51), 2, 2, 0, 46, 48);
        day("hook 7 beside hook 6", hung(5, 90, 2, 7, 50, 2, 6, 51), 2, 2, 7, 46, 48);
        day("hook 7, not the start of the next string", hung(5, 90, 2, 7, 50, 3, 0, 51), 2, 2, 7, 45, 48);
        day("hook 0, not the end of the string before", hung(5, 90, 2, 0, 50, 1, 7, 51), 2, 2, 0, 45, 48);
        day("not the same hook of another string", hung(5, 90, 2, 3, 50, 1, 3, 51, 3, 3, 51), 2, 2, 3, 45, 48);
        day("not over an empty hook", hung(5, 90, 2, 3, 50, 2, 1, 51, 2, 5, 51), 2, 2, 3, 45, 48);
        answers("wetness is cut: 50 beside 50 and 51 is as wet", hung(1, 90, 0, 1, 51),
                x -> each(x.pass(1, 0), x.told(0, 1, 3), x.hang(0, 0, 0, 50), x.pass(1, 0), x.told(0, 0, 1)),
                0, 50, 2, 0, 49);
        answers("wetter as the day begins, on the hook above", () -> {
            HerbLoft x = hung(9, 90, 0, 1, 51).get();
            x.herb(2, 90);
            x.hang(0, 0, 1, 50);
            return x;
        }, x -> each(x.pass(1, 0), x.told(0, 0, 1), x.told(0, 1, 1)), 0, 49, 42);
        answers("wetter as the day begins, on the hook below", () -> {
            HerbLoft x = hung(9, 90, 0, 0, 51).get();
            x.herb(2, 90);
            x.hang(0, 1, 1, 50);
            return x;
        }, x -> each(x.pass(1, 0), x.told(0, 1, 1), x.told(0, 0, 1)), 0, 49, 42);
        answers("as wet as the day begins, wetter as it ends, on the hook above", () -> {
            HerbLoft x = hung(1, 90, 0, 1, 50).get();
            x.herb(2, 90);
            x.hang(0, 0, 1, 50);
            return x;
        }, x -> each(x.pass(1, 0), x.told(0, 0, 1), x.told(0, 1, 1)), 0, 48, 49);
    }

    private static void sides() {
        day("front 1 more than the force", hung(5, 90, 0, 0, 6), 0, 0, 0, 1, 4);
        day("front as much as the force", hung(5, 90, 0, 0, 5), 0, 0, 0, 0, 3);
        day("front 1 less than the force", hung(5, 90, 0, 0, 4), 0, 0, 0, 0, 2);
        day("back 1 more than the half", hung(5, 90, 0, 0, 3), 0, 0, 0, 0, 1);
        day("back as much as the half", hung(5, 90, 0, 0, 2), 0, 0, 0, 0, 0);
        day("back 1 less than the half", hung(5, 90, 0, 0, 1), 0, 0, 0, 0, 0);
        day("both dry", hung(5, 90, 0, 0, 0), 0, 0, 0, 0, 0);
        day("both dry, the greatest force", () -> withWindow(3, hung(9, 90, 4, 0, 0)), 0, 4, 0, 0, 0);
        day("wet by 100", hung(5, 90, 0, 0, 100), 0, 0, 0, 95, 98);
        answers("a dry front does not spare the back", hung(5, 90, 0, 0, 8),
                x -> each(x.pass(3, 0), x.told(0, 0, 1), x.told(0, 0, 2), x.told(0, 0, 3)), 0, 0, 2, 1);
    }

    private static void wetDays() {
        damp("as wet as the limit, 50: no wet day", hung(1, 50, 0, 0, 50), 1, 0, 0);
        damp("wetter than the limit by 1: a wet day", hung(1, 50, 0, 0, 51), 1, 1, 0);
        damp("drier than the limit by 1: no wet day", hung(1, 50, 0, 0, 49), 1, 0, 0);
        damp("as wet as the least limit, 20", hung(1, 20, 0, 0, 20), 60, 0, 0);
        damp("wetter than the least limit by 1", hung(1, 20, 0, 0, 21), 2, 2, 0);
        damp("as wet as the greatest limit, 90", hung(1, 90, 0, 0, 90), 60, 0, 0);
        damp("wetter than the greatest limit by 1", hung(1, 90, 0, 0, 91), 2, 2, 0);
        damp("60 wet days", hung(1, 20, 0, 0, 21), 60, 60, 9);
        answers("over the limit as the day begins, not behind it", hung(1, 50, 0, 0, 51),
                x -> each(x.pass(1, 0), x.told(0, 0, 3), x.told(0, 0, 4)), 0, 50, 0);
        answers("over the limit behind the day, by 1", hung(1, 50, 0, 0, 52),
                x -> each(x.pass(1, 0), x.told(0, 0, 3), x.told(0, 0, 4)), 0, 51, 1);
        answers("wetness is cut: 50 and 51 are not over 50", hung(1, 50, 0, 0, 51),
                x -> each(x.pass(1, 0), x.told(0, 0, 1), x.told(0, 0, 2), x.told(0, 0, 4)), 0, 50, 51, 0);
        answers("two wet days, then none: 0 and no mould", hung(1, 50, 0, 0, 52),
                x -> each(x.pass(2, 0), x.told(0, 0, 4), x.pass(1, 0), x.told(0, 0, 4), x.told(0, 0, 5)), 0, 2, 0, 0, 0);
        answers("a move does not end them", hung(1, 50, 0, 0, 60),
                x -> each(x.pass(2, 9), x.move(0, 0, 1, 1), x.pass(1, 9), x.told(1, 1, 4), x.told(1, 1, 5)),
                0, 0, 1, 3, 1);
    }

    private static void mouldGrows() {
        damp("two wet days: no mould", hung(1, 50, 0, 0, 100), 2, 2, 0);
        damp("three wet days: mould 1", hung(1, 50, 0, 0, 100), 3, 3, 1);
        damp("four wet days: mould 2", hung(1, 50, 0, 0, 100), 4, 4, 2);
        damp("ten wet days: mould 8", hung(1, 50, 0, 0, 100), 10, 10, 8);
        damp("eleven wet days: mould 9", hung(1, 50, 0, 0, 100), 11, 11, 9);
        damp("twelve wet days: mould 9, at most", hung(1, 50, 0, 0, 100), 12, 12, 9);
        answers("three wet days by three calls", hung(1, 50, 0, 0, 100),
                x -> each(x.pass(1, 9), x.pass(1, 9), x.pass(1, 9), x.told(0, 0, 5)), 0, 0, 1, 1);
        answers("a dry day: mould stays, it does not grow", hung(1, 50, 0, 0, 53),
                x -> each(x.pass(4, 0), x.told(0, 0, 4), x.told(0, 0, 5), x.pass(1, 0), x.told(0, 0, 4),
                        x.told(0, 0, 5)),
                1, 4, 2, 1, 0, 2);
        answers("mould 9 stays when it is dry", hung(1, 20, 0, 0, 30),
                x -> each(x.pass(60, 9), x.setWindow(3), x.pass(60, 0), x.told(0, 0, 3), x.told(0, 0, 5)), 1, 0, 1, 0, 9);
        answers("each bundle has wet days of its own", hung(1, 50, 0, 0, 100),
                x -> each(x.pass(1, 9), x.hang(0, 7, 0, 100), x.pass(2, 9), x.told(0, 0, 5), x.told(0, 7, 5)),
                0, 2, 1, 1, 0);
    }

    // Behind n days of damp 9 the wet one, of limit 50, has a mould of n - 2; the dry ones get it
    // from none but their neighbours.
    private static void mouldGoesOn() {
        answers("mould 2 as the day begins: not yet", hung(1, 50, 0, 3, 100, 0, 4, 10),
                x -> each(x.pass(5, 9), x.told(0, 3, 5), x.told(0, 4, 5)), 1, 3, 0);
        answers("mould 3 as the day begins", hung(1, 50, 0, 3, 100, 0, 4, 10),
                x -> each(x.pass(6, 9), x.told(0, 3, 5), x.told(0, 4, 5)), 2, 4, 1);
        answers("mould 3 as the day begins, on the hook above", hung(1, 50, 0, 4, 100, 0, 3, 10),
                x -> each(x.pass(5, 9), x.told(0, 3, 5), x.pass(1, 9), x.told(0, 3, 5)), 1, 0, 2, 1);
        answers("to both neighbours", hung(1, 50, 0, 2, 10, 0, 3, 100, 0, 4, 10),
                x -> each(x.pass(6, 9), x.told(0, 2, 5), x.told(0, 4, 5)), 3, 1, 1);
        answers("of both neighbours: 1 still", hung(1, 50, 0, 2, 100, 0, 3, 10, 0, 4, 100),
                x -> each(x.pass(6, 9), x.told(0, 3, 5)), 3, 1);
        answers("to hook 0 from hook 1", hung(1, 50, 2, 0, 10, 2, 1, 100),
                x -> each(x.pass(6, 9), x.told(2, 0, 5)), 2, 1);
        answers("to hook 7 from hook 6", hung(1, 50, 2, 7, 10, 2, 6, 100),
                x -> each(x.pass(6, 9), x.told(2, 7, 5)), 2, 1);
        answers("from hook 0 to hook 1", hung(1, 50, 2, 0, 100, 2, 1, 10),
                x -> each(x.pass(6, 9), x.told(2, 1, 5)), 2, 1);
        answers("from hook 7 to hook 6", hung(1, 50, 2, 7, 100, 2, 6, 10),
                x -> each(x.pass(6, 9), x.told(2, 6, 5)), 2, 1);
        answers("to a bundle of another herb", hung(1, 50, 0, 3, 100),
                x -> each(x.herb(9, 90), x.hang(0, 4, 1, 10), x.pass(6, 9), x.told(0, 4, 5)), 1, 2, 2, 1);
        answers("mould 9, to a new bundle", hung(1, 50, 0, 3, 100),
                x -> each(x.pass(20, 9), x.hang(0, 4, 0, 10), x.pass(1, 9), x.told(0, 4, 5)), 1, 2, 2, 1);
        answers("mould 3 of a bundle that was moved beside it", hung(1, 50, 0, 0, 100, 2, 3, 10),
                x -> each(x.pass(5, 9), x.move(0, 0, 2, 4), x.pass(1, 9), x.told(2, 3, 5)), 1, 1, 2, 1);
        answers("to a bundle with two wet days: 1, and 2 the next day", hung(1, 50, 0, 3, 100),
                x -> each(x.pass(4, 9), x.hang(0, 4, 0, 60), x.pass(1, 9), x.told(0, 4, 5), x.pass(1, 9),
                        x.told(0, 4, 4), x.told(0, 4, 5), x.pass(1, 9), x.told(0, 4, 5)),
                1, 2, 1, 0, 2, 2, 1, 2, 2);
    }

    private static void mouldDoesNotGoOn() {
        answers("mould 1", hung(1, 50, 0, 3, 100, 0, 4, 10, 0, 5, 10),
                x -> each(x.pass(60, 9), x.told(0, 4, 5), x.told(0, 5, 5)), 2, 1, 0);
        answers("mould 2 that stays", hung(1, 50, 0, 0, 53),
                x -> each(x.pass(5, 0), x.told(0, 0, 5), x.hang(0, 1, 0, 10), x.pass(60, 9), x.told(0, 1, 5)),
                1, 2, 2, 1, 0);
        answers("mould that is 3 as the day ends, on a lower hook", hung(1, 50, 0, 0, 100),
                x -> each(x.pass(4, 9), x.hang(0, 1, 0, 10), x.pass(1, 9), x.told(0, 0, 5), x.told(0, 1, 5)),
                1, 2, 1, 3, 0);
        answers("from hook 7 to the next string", hung(1, 50, 1, 7, 100, 2, 0, 10),
                x -> each(x.pass(60, 9), x.told(2, 0, 5)), 1, 0);
        answers("from hook 0 to the string before", hung(1, 50, 2, 0, 100, 1, 7, 10),
                x -> each(x.pass(60, 9), x.told(1, 7, 5)), 1, 0);
        answers("to the same hook of other strings", hung(1, 50, 2, 3, 100, 1, 3, 10, 3, 3, 10),
                x -> each(x.pass(60, 9), x.told(1, 3, 5), x.told(3, 3, 5)), 1, 0, 0);
        answers("over an empty hook", hung(1, 50, 2, 3, 100, 2, 1, 10, 2, 5, 10),
                x -> each(x.pass(60, 9), x.told(2, 1, 5), x.told(2, 5, 5)), 1, 0, 0);
        answers("to an empty hook", hung(1, 50, 2, 3, 100), x -> each(x.pass(60, 9), x.told(2, 4, 5), x.count(2)),
                1, -1, 1);
        answers("to a bundle hung on that hook behind the day", hung(1, 50, 2, 3, 100),
                x -> each(x.pass(20, 9), x.hang(2, 4, 0, 10), x.told(2, 4, 5), x.count(3)), 1, 2, 0, 1);
        answers("from a bundle that was taken off", hung(1, 50, 2, 3, 100, 2, 4, 10),
                x -> each(x.pass(5, 9), x.take(2, 3), x.pass(1, 9), x.told(2, 4, 5)), 1, 100, 0, 0);
        answers("from a bundle that was moved away", hung(1, 50, 2, 3, 100, 2, 4, 10),
                x -> each(x.pass(5, 9), x.move(2, 3, 1, 0), x.pass(1, 9), x.told(2, 4, 5)), 1, 0, 1, 0);
    }

    private static void mouldThatIsThere() {
        answers("mould 2 beside 3 is not 1 again", hung(1, 50, 0, 0, 53, 0, 7, 100),
                x -> each(x.pass(5, 0), x.told(0, 0, 5), x.told(0, 7, 5), x.move(0, 7, 0, 1), x.pass(1, 9),
                        x.told(0, 0, 5), x.told(0, 1, 5)),
                2, 2, 3, 1, 2, 2, 4);
        answers("mould 1 beside 3 is not 2", hung(1, 50, 0, 3, 100, 0, 4, 10),
                x -> each(x.pass(6, 9), x.told(0, 4, 5), x.pass(9, 9), x.told(0, 4, 5)), 2, 1, 2, 1);
        answers("mould by the third wet day beside 3 is 1", hung(1, 50, 0, 0, 100),
                x -> each(x.pass(3, 9), x.hang(0, 1, 0, 100), x.pass(2, 9), x.told(0, 0, 5), x.told(0, 1, 5),
                        x.pass(1, 9), x.told(0, 1, 4), x.told(0, 1, 5)),
                1, 2, 1, 3, 0, 2, 3, 1);
        answers("mould 8 beside 9 grows by 1", hung(1, 50, 0, 0, 100),
                x -> each(x.pass(1, 9), x.hang(0, 7, 0, 100), x.pass(10, 9), x.told(0, 0, 5), x.told(0, 7, 5),
                        x.move(0, 7, 0, 1), x.pass(1, 9), x.told(0, 0, 5), x.told(0, 1, 5)),
                0, 2, 2, 9, 8, 1, 2, 9, 9);
        endPromise();
    }
}
