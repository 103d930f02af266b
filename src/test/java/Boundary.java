import java.util.ArrayList;
import java.util.Arrays;
import java.util.HashSet;
import java.util.List;
import java.util.Set;
import java.util.function.Consumer;
import java.util.function.Function;
import java.util.function.ObjIntConsumer;
import java.util.function.Supplier;

/**
 * What the boundary tests share. Each case has lofts of its own and a name; one that does not hold
 * is told with the number of its promise and its name.
 */
abstract class Boundary {
    static final Class<? extends RuntimeException> INDEX = Check.INDEX;
    static final Class<? extends RuntimeException> ARGUMENT = Check.ARGUMENT;
    static final Class<? extends RuntimeException> STATE = Check.STATE;

    static final Supplier<HerbLoft> EMPTY = HerbLoft::new;
    static final Supplier<HerbLoft> ONE_HERB = () -> withHerbs(1);
    static final Supplier<HerbLoft> SIX_HERBS = () -> withHerbs(6);
    static final Supplier<HerbLoft> FULL = Boundary::full;

    // Numbers that would come back into a range if they were cut to a byte or a short, or if the
    // index of a hook, 8 for each string, wrapped around.
    private static final int[] FAR = {
        Integer.MIN_VALUE, Integer.MIN_VALUE + 1, -65536, -256, -8,
        256, 257, 65536, 65537, 1 << 28, 1 << 29, (1 << 29) + 1, 1 << 30, Integer.MAX_VALUE,
    };

    private static final Set<String> NAMES = new HashSet<>();
    private static int promise = 0;
    private static int cases = 0;

    /** The cases from here on are of this promise. */
    static void promise(int number) {
        promise = number;
        cases = 0;
        NAMES.clear();
    }

    /** Says how many cases of the promise there were. */
    static void endPromise() {
        if (cases == 0) {
            Check.note("promise " + promise + " has no boundary cases");
        }
        System.out.println("promise " + promise + ": " + cases + " boundary cases");
    }

    /** What calls answer, one after the other. */
    static long[] each(long... answers) {
        return answers;
    }

    /** The calls must answer this, one after the other. */
    static void answers(String name, Supplier<HerbLoft> loft, Function<HerbLoft, long[]> calls, long... due) {
        begin(name);
        long[] got;
        try {
            got = calls.apply(loft.get());
        } catch (RuntimeException e) {
            wrong(name, "a call threw " + e + ", due is " + Arrays.toString(due));
            return;
        }
        if (!Arrays.equals(got, due)) {
            wrong(name, "answered " + Arrays.toString(got) + ", due is " + Arrays.toString(due));
        }
    }

    /** The mean wetness must be this. */
    static void isMean(String name, Supplier<HerbLoft> loft, double due) {
        begin(name);
        double got;
        try {
            got = loft.get().mean();
        } catch (RuntimeException e) {
            wrong(name, "a call threw " + e + ", due is " + due);
            return;
        }
        if (got != due) {
            wrong(name, "answered " + got + ", due is " + due);
        }
    }

    /** The call must itself throw exactly this, and leave all as it is in a loft without the call. */
    static void refuses(
            String name, Class<? extends RuntimeException> due, Supplier<HerbLoft> loft, Consumer<HerbLoft> call) {
        begin(name);
        HerbLoft called = made(name, loft);
        HerbLoft other = made(name, loft);
        if (called == null || other == null) {
            return;
        }
        String fault = "threw nothing, due is " + due;
        try {
            call.accept(called);
        } catch (RuntimeException e) {
            fault = Check.faultOf(e, due);
        }
        if (fault != null) {
            wrong(name, fault);
        }
        mustBeAlike(name, called, other);
    }

    /** The call must leave all as it is in a loft without the call. */
    static void changesNothing(String name, Supplier<HerbLoft> loft, Consumer<HerbLoft> call) {
        begin(name);
        HerbLoft called = made(name, loft);
        HerbLoft other = made(name, loft);
        if (called == null || other == null) {
            return;
        }
        try {
            call.accept(called);
        } catch (RuntimeException e) {
            wrong(name, "threw " + e);
        }
        mustBeAlike(name, called, other);
    }

    /** The call must throw this for numbers just outside the range, and for ones far from it. */
    static void refusesOutside(
            String name, int least, int most, Class<? extends RuntimeException> due,
            Supplier<HerbLoft> loft, ObjIntConsumer<HerbLoft> call) {
        refuses(name + " " + (least - 1) + ", just below the range", due, loft, x -> call.accept(x, least - 1));
        refuses(name + " " + (most + 1) + ", just above the range", due, loft, x -> call.accept(x, most + 1));
        for (int number : FAR) {
            refuses(name + " " + number + ", far outside", due, loft, x -> call.accept(x, number));
        }
    }

    private static HerbLoft withHerbs(int many) {
        HerbLoft x = new HerbLoft();
        for (int i = 0; i < many; i++) {
            x.herb(i + 1, 20 + 14 * i);
        }
        return x;
    }

    /**
     * 6 herbs of ease 1 to 6 and limit 20 to 90; 40 bundles, of one herb after the other, the first
     * wet by 10, each next one by 2 more; 6 orders, one for each herb, for 9, wet by 60.
     */
    private static HerbLoft full() {
        HerbLoft x = withHerbs(6);
        for (int i = 0; i < 40; i++) {
            x.hang(i / 8, i % 8, i % 6, 10 + 2 * i);
        }
        for (int i = 0; i < 6; i++) {
            x.order(i, 9, 60);
        }
        return x;
    }

    private static void begin(String name) {
        cases++;
        if (!NAMES.add(name)) {
            wrong(name, "two cases of this name");
        }
    }

    private static void wrong(String name, String fault) {
        Check.note("promise " + promise + ", " + name + ": " + fault);
    }

    /** The loft, null if it could not be made. */
    private static HerbLoft made(String name, Supplier<HerbLoft> loft) {
        try {
            return loft.get();
        } catch (RuntimeException e) {
            wrong(name, "the loft could not be made: " + e);
            return null;
        }
    }

    private static void mustBeAlike(String name, HerbLoft called, HerbLoft other) {
        List<Long> got;
        List<Long> due;
        try {
            got = everything(called);
            due = everything(other);
        } catch (RuntimeException e) {
            wrong(name, "what there is could not be told behind the call: " + e);
            return;
        }
        if (!got.equals(due)) {
            wrong(name, "changed the loft from " + due + " to " + got);
        }
    }

    /** All that a loft tells: at most 391 calls, so that 121 are left to make it. */
    private static List<Long> everything(HerbLoft x) {
        List<Long> all = new ArrayList<>();
        for (int what = 0; what <= 8; what++) {
            all.add((long) x.count(what));
        }
        for (int i = 0; i < all.get(1) * 5; i++) {
            all.add((long) x.about(i / 5, i % 5));
        }
        for (int i = 0; i < all.get(4) * 5; i++) {
            all.add((long) x.asked(i / 5, i % 5));
        }
        for (int i = 0; i < 5 * 8 * 8; i++) {
            all.add((long) x.told(i / 64, i / 8 % 8, i % 8));
        }
        all.add(Double.doubleToLongBits(x.mean()));
        all.add(x.digest());
        return all;
    }
}
