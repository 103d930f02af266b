import java.util.ArrayList;

/** A loft in which herbs dry. */
public final class HerbLoft {
    private static final int STRINGS = 5;
    private static final int HOOKS = 8;
    private static final int MOST_HERBS = 6;
    private static final int MOST_ORDERS = 6;
    private static final int MOST_WET = 100;
    private static final int MOST_DAMP = 9;
    private static final int MOST_MOULD = 9;
    private static final int MOST_DAYS_UNTIL = 90;
    private static final int WET_DAYS_TO_MOULD = 3;
    private static final int MOULD_THAT_SPREADS = 3;
    // More than the wetness of all bundles can be, so that one mouldy bundle outweighs it.
    private static final int SCORE_OF_MOULDY = 10000;

    private final ArrayList<Herb> herbs;
    private final ArrayList<Order> orders;
    private final Rack rack;
    // What would be is tried out here, so that the rack itself stays as it is.
    private final Rack trial;
    private int window;
    private int day;

    public HerbLoft() {
        herbs = new ArrayList<Herb>();
        orders = new ArrayList<Order>();
        rack = new Rack();
        trial = new Rack();
        window = 0;
        day = 0;
    }

    // ---- herbs and bundles

    public int herb(int ease, int limit) throws IllegalArgumentException, IllegalStateException {
        if (!isWithin(ease, 1, 9)) {
            throw new IllegalArgumentException("the ease is not 1 to 9");
        }
        if (!isWithin(limit, 20, 90)) {
            throw new IllegalArgumentException("the limit is not 20 to 90");
        }
        if (herbs.size() >= MOST_HERBS) {
            throw new IllegalStateException("there are 6 herbs");
        }
        int number = herbs.size();
        herbs.add(new Herb(number, ease, limit));
        return number;
    }

    public int hang(int string, int hook, int herb, int wet)
            throws IndexOutOfBoundsException, IllegalArgumentException, IllegalStateException {
        Hook place = rack.hookAt(string, hook);
        if (place == null) {
            throw new IndexOutOfBoundsException("there is no such string or hook");
        }
        Herb kind = herbNumbered(herb);
        if (kind == null) {
            throw new IndexOutOfBoundsException("there is no such herb");
        }
        if (!isWithin(wet, 0, MOST_WET)) {
            throw new IllegalArgumentException("wet is not 0 to 100");
        }
        if (place.isTaken()) {
            throw new IllegalStateException("a bundle hangs there");
        }
        place.receiveNew(kind, wet);
        return rack.bundles();
    }

    public int take(int string, int hook) throws IndexOutOfBoundsException, IllegalStateException {
        Hook place = rack.hookAt(string, hook);
        if (place == null) {
            throw new IndexOutOfBoundsException("there is no such string or hook");
        }
        if (!place.isTaken()) {
            throw new IllegalStateException("no bundle hangs there");
        }
        int wetness = place.wetness();
        place.clear();
        return wetness;
    }

    public int move(int string, int hook, int string2, int hook2)
            throws IndexOutOfBoundsException, IllegalStateException {
        Hook from = rack.hookAt(string, hook);
        Hook to = rack.hookAt(string2, hook2);
        if (from == null || to == null) {
            throw new IndexOutOfBoundsException("there is no such string or hook");
        }
        if (!from.isTaken()) {
            throw new IllegalStateException("no bundle hangs on the first hook");
        }
        if (to.isTaken()) {
            throw new IllegalStateException("a bundle hangs on the second hook");
        }
        to.copyBundleOf(from);
        from.clear();
        return to.neighbours();
    }

    public int turn(int string) throws IndexOutOfBoundsException {
        if (!isWithin(string, 0, STRINGS - 1)) {
            throw new IndexOutOfBoundsException("there is no such string");
        }
        return rack.turnAllOn(string);
    }

    public int setWindow(int open) throws IllegalArgumentException {
        if (!isWithin(open, 0, 3)) {
            throw new IllegalArgumentException("open is not 0 to 3");
        }
        int before = window;
        window = open;
        return before;
    }

    // ---- orders

    public int order(int herb, int many, int wet)
            throws IndexOutOfBoundsException, IllegalArgumentException, IllegalStateException {
        Herb kind = herbNumbered(herb);
        if (kind == null) {
            throw new IndexOutOfBoundsException("there is no such herb");
        }
        if (!isWithin(many, 1, 9)) {
            throw new IllegalArgumentException("many is not 1 to 9");
        }
        if (!isWithin(wet, 0, 60)) {
            throw new IllegalArgumentException("wet is not 0 to 60");
        }
        if (orders.size() >= MOST_ORDERS) {
            throw new IllegalStateException("there are 6 orders");
        }
        int number = orders.size();
        orders.add(new Order(kind, many, wet));
        return number;
    }

    public int fill() {
        int given = 0;
        for (int i = 0; i < orders.size(); i++) {
            given += rack.giveTo(orders.get(i));
        }
        return given;
    }

    // ---- days

    public int pass(int days, int damp) throws IllegalArgumentException {
        if (!isWithin(days, 1, 60)) {
            throw new IllegalArgumentException("days is not 1 to 60");
        }
        if (!isWithin(damp, 0, MOST_DAMP)) {
            throw new IllegalArgumentException("damp is not 0 to 9");
        }
        rack.letDaysGo(days, window, damp);
        day += days;
        return rack.mouldyBundles();
    }

    // ---- what there is

    public int told(int string, int hook, int what) throws IndexOutOfBoundsException {
        Hook place = rack.hookAt(string, hook);
        if (place == null) {
            throw new IndexOutOfBoundsException("there is no such string or hook");
        }
        if (!isWithin(what, 0, 7)) {
            throw new IndexOutOfBoundsException("what is not 0 to 7");
        }
        return place.tells(what);
    }

    public int about(int herb, int what) throws IndexOutOfBoundsException {
        Herb kind = herbNumbered(herb);
        if (kind == null) {
            throw new IndexOutOfBoundsException("there is no such herb");
        }
        switch (what) {
            case 0:
                return kind.ease;
            case 1:
                return kind.limit;
            case 2:
                return rack.bundlesOf(kind);
            case 3:
                return rack.mouldyBundlesOf(kind);
            case 4:
                return rack.leastCleanWetnessOf(kind);
            default:
                throw new IndexOutOfBoundsException("what is not 0 to 4");
        }
    }

    public int asked(int order, int what) throws IndexOutOfBoundsException {
        if (order < 0 || order >= orders.size()) {
            throw new IndexOutOfBoundsException("there is no such order");
        }
        Order wish = orders.get(order);
        switch (what) {
            case 0:
                return wish.herb.number;
            case 1:
                return wish.many;
            case 2:
                return wish.wet;
            case 3:
                return wish.got;
            case 4:
                return rack.bundlesThatFit(wish);
            default:
                throw new IndexOutOfBoundsException("what is not 0 to 4");
        }
    }

    public int count(int what) throws IndexOutOfBoundsException {
        switch (what) {
            case 0:
                return day;
            case 1:
                return herbs.size();
            case 2:
                return rack.bundles();
            case 3:
                return rack.mouldyBundles();
            case 4:
                return orders.size();
            case 5:
                return ordersThatGotAll();
            case 6:
                return bundlesGiven();
            case 7:
                return window;
            case 8:
                return rack.sumOfWetness();
            default:
                throw new IndexOutOfBoundsException("what is not 0 to 8");
        }
    }

    // ---- what would be

    public int until(int string, int hook, int wet, int damp)
            throws IndexOutOfBoundsException, IllegalArgumentException {
        Hook tried = trial.hookAt(string, hook);
        if (tried == null) {
            throw new IndexOutOfBoundsException("there is no such string or hook");
        }
        if (!isWithin(wet, 0, MOST_WET)) {
            throw new IllegalArgumentException("wet is not 0 to 100");
        }
        if (!isWithin(damp, 0, MOST_DAMP)) {
            throw new IllegalArgumentException("damp is not 0 to 9");
        }
        trial.copyAllOf(rack);
        if (!tried.isTaken()) {
            return -1;
        }
        int days = 0;
        while (days < MOST_DAYS_UNTIL && tried.wetness() > wet) {
            trial.letDaysGo(1, window, damp);
            days++;
        }
        return tried.wetness() > wet ? -1 : days;
    }

    public int foresee(int days, int damp, int what)
            throws IllegalArgumentException, IndexOutOfBoundsException {
        if (!isWithin(days, 1, 60)) {
            throw new IllegalArgumentException("days is not 1 to 60");
        }
        if (!isWithin(damp, 0, MOST_DAMP)) {
            throw new IllegalArgumentException("damp is not 0 to 9");
        }
        if (what != 3 && what != 8) {
            throw new IndexOutOfBoundsException("what is not 3 or 8");
        }
        trial.copyAllOf(rack);
        trial.letDaysGo(days, window, damp);
        return what == 3 ? trial.mouldyBundles() : trial.sumOfWetness();
    }

    public int advise(int days, int damp) throws IllegalArgumentException {
        if (!isWithin(days, 1, 30)) {
            throw new IllegalArgumentException("days is not 1 to 30");
        }
        if (!isWithin(damp, 0, MOST_DAMP)) {
            throw new IllegalArgumentException("damp is not 0 to 9");
        }
        trial.copyAllOf(rack);
        int leastScore = scoreOfTrialBehind(days, damp);
        int best = -1;
        for (int string = 0; string < STRINGS; string++) {
            trial.copyAllOf(rack);
            trial.turnAllOn(string);
            int score = scoreOfTrialBehind(days, damp);
            if (score < leastScore) {
                leastScore = score;
                best = string;
            }
        }
        return best;
    }

    public double mean() {
        int bundles = rack.bundles();
        if (bundles == 0) {
            return 0.0;
        }
        return (double) rack.sumOfWetness() / (double) bundles;
    }

    public long digest() {
        long d = 1831L;
        for (int what = 0; what <= 8; what++) {
            d = d * 31L + count(what);
        }
        for (int herb = 0; herb < herbs.size(); herb++) {
            for (int what = 0; what <= 4; what++) {
                d = d * 31L + about(herb, what);
            }
        }
        for (int order = 0; order < orders.size(); order++) {
            for (int what = 0; what <= 4; what++) {
                d = d * 31L + asked(order, what);
            }
        }
        for (int string = 0; string < STRINGS; string++) {
            for (int hook = 0; hook < HOOKS; hook++) {
                for (int what = 0; what <= 5; what++) {
                    d = d * 31L + told(string, hook, what);
                }
            }
        }
        return d;
    }

    private static boolean isWithin(int number, int least, int most) {
        return number >= least && number <= most;
    }

    /** The herb of this number, null if there is none. */
    private Herb herbNumbered(int number) {
        return number >= 0 && number < herbs.size() ? herbs.get(number) : null;
    }

    private int ordersThatGotAll() {
        int sum = 0;
        for (int i = 0; i < orders.size(); i++) {
            if (!orders.get(i).needsSome()) {
                sum++;
            }
        }
        return sum;
    }

    private int bundlesGiven() {
        int sum = 0;
        for (int i = 0; i < orders.size(); i++) {
            sum += orders.get(i).got;
        }
        return sum;
    }

    /** How bad the trial is behind these days: the less, the better. */
    private int scoreOfTrialBehind(int days, int damp) {
        trial.letDaysGo(days, window, damp);
        return trial.mouldyBundles() * SCORE_OF_MOULDY + trial.sumOfWetness();
    }

    private static final class Herb {
        final int number;
        final int ease;
        final int limit;

        Herb(int number, int ease, int limit) {
            this.number = number;
            this.ease = ease;
            this.limit = limit;
        }
    }

    private static final class Order {
        final Herb herb;
        final int many;
        final int wet;
        int got;

        Order(Herb herb, int many, int wet) {
            this.herb = herb;
            this.many = many;
            this.wet = wet;
            this.got = 0;
        }

        boolean needsSome() {
            return got < many;
        }
    }

    /** A hook, with the bundle that hangs on it. */
    private static final class Hook {
        final int string;
        // The hooks beside it on its string, null at an end.
        Hook before;
        Hook after;
        // The herb of the bundle, null without one.
        Herb herb;
        int front;
        int back;
        int wetDays;
        int mould;
        // How the day was as it began: no bundle may see what the day has done to another.
        int force;
        boolean besideSpreading;

        Hook(int string) {
            this.string = string;
        }

        boolean isTaken() {
            return herb != null;
        }

        boolean isTakenBy(Herb kind) {
            return herb != null && herb == kind;
        }

        boolean isMouldy() {
            return herb != null && mould > 0;
        }

        int wetness() {
            return (front + back) / 2;
        }

        boolean fits(Order wish) {
            return isTakenBy(wish.herb) && wetness() <= wish.wet && mould == 0;
        }

        void receiveNew(Herb kind, int wet) {
            herb = kind;
            front = wet;
            back = wet;
            wetDays = 0;
            mould = 0;
        }

        void clear() {
            receiveNew(null, 0);
        }

        void copyBundleOf(Hook other) {
            herb = other.herb;
            front = other.front;
            back = other.back;
            wetDays = other.wetDays;
            mould = other.mould;
        }

        void exchangeSides() {
            int oldFront = front;
            front = back;
            back = oldFront;
        }

        int neighbours() {
            int sum = 0;
            if (before != null && before.isTaken()) {
                sum++;
            }
            if (after != null && after.isTaken()) {
                sum++;
            }
            return sum;
        }

        int wetterNeighbours() {
            int sum = 0;
            if (before != null && before.isWetterThan(this)) {
                sum++;
            }
            if (after != null && after.isWetterThan(this)) {
                sum++;
            }
            return sum;
        }

        private boolean isWetterThan(Hook other) {
            return isTaken() && wetness() > other.wetness();
        }

        private boolean spreadsMould() {
            return isTaken() && mould >= MOULD_THAT_SPREADS;
        }

        void beginDay(int window, int damp) {
            if (herb == null) {
                return;
            }
            force = Math.max(0, herb.ease + string + 2 * window - damp - wetterNeighbours());
            besideSpreading = (before != null && before.spreadsMould())
                    || (after != null && after.spreadsMould());
        }

        void endDay() {
            if (herb == null) {
                return;
            }
            front = Math.max(0, front - force);
            back = Math.max(0, back - force / 2);
            wetDays = wetness() > herb.limit ? wetDays + 1 : 0;
            if (wetDays >= WET_DAYS_TO_MOULD) {
                mould = Math.min(MOST_MOULD, mould + 1);
            }
            if (mould == 0 && besideSpreading) {
                mould = 1;
            }
        }

        int tells(int what) {
            if (herb == null) {
                return -1;
            }
            switch (what) {
                case 0:
                    return herb.number;
                case 1:
                    return front;
                case 2:
                    return back;
                case 3:
                    return wetness();
                case 4:
                    return wetDays;
                case 5:
                    return mould;
                case 6:
                    return neighbours();
                default:
                    return wetterNeighbours();
            }
        }
    }

    /** All hooks, string by string. */
    private static final class Rack {
        private final Hook[] hooks;

        Rack() {
            hooks = new Hook[STRINGS * HOOKS];
            for (int string = 0; string < STRINGS; string++) {
                Hook before = null;
                for (int hook = 0; hook < HOOKS; hook++) {
                    Hook made = new Hook(string);
                    made.before = before;
                    if (before != null) {
                        before.after = made;
                    }
                    hooks[string * HOOKS + hook] = made;
                    before = made;
                }
            }
        }

        /** The hook there, null if there is none. */
        Hook hookAt(int string, int hook) {
            if (!isWithin(string, 0, STRINGS - 1) || !isWithin(hook, 0, HOOKS - 1)) {
                return null;
            }
            return hooks[string * HOOKS + hook];
        }

        void copyAllOf(Rack other) {
            for (int i = 0; i < hooks.length && i < other.hooks.length; i++) {
                hooks[i].copyBundleOf(other.hooks[i]);
            }
        }

        int turnAllOn(int string) {
            int sum = 0;
            for (Hook place : hooks) {
                if (place.string == string && place.isTaken()) {
                    place.exchangeSides();
                    sum++;
                }
            }
            return sum;
        }

        void letDaysGo(int days, int window, int damp) {
            for (int i = 0; i < days; i++) {
                for (Hook place : hooks) {
                    place.beginDay(window, damp);
                }
                for (Hook place : hooks) {
                    place.endDay();
                }
            }
        }

        /** Gives an order what it needs and can get, and returns how many bundles that were. */
        int giveTo(Order wish) {
            int given = 0;
            for (int string = STRINGS - 1; string >= 0; string--) {
                for (int hook = 0; hook < HOOKS; hook++) {
                    Hook place = hookAt(string, hook);
                    if (place != null && wish.needsSome() && place.fits(wish)) {
                        place.clear();
                        wish.got++;
                        given++;
                    }
                }
            }
            return given;
        }

        int bundles() {
            int sum = 0;
            for (Hook place : hooks) {
                if (place.isTaken()) {
                    sum++;
                }
            }
            return sum;
        }

        int mouldyBundles() {
            int sum = 0;
            for (Hook place : hooks) {
                if (place.isMouldy()) {
                    sum++;
                }
            }
            return sum;
        }

        int sumOfWetness() {
            int sum = 0;
            for (Hook place : hooks) {
                if (place.isTaken()) {
                    sum += place.wetness();
                }
            }
            return sum;
        }

        int bundlesOf(Herb kind) {
            int sum = 0;
            for (Hook place : hooks) {
                if (place.isTakenBy(kind)) {
                    sum++;
                }
            }
            return sum;
        }

        int mouldyBundlesOf(Herb kind) {
            int sum = 0;
            for (Hook place : hooks) {
                if (place.isTakenBy(kind) && place.isMouldy()) {
                    sum++;
                }
            }
            return sum;
        }

        /** The least wetness of the bundles of a herb that have no mould, -1 without one. */
        int leastCleanWetnessOf(Herb kind) {
            int least = -1;
            for (Hook place : hooks) {
                if (place.isTakenBy(kind) && !place.isMouldy()
                        && (least < 0 || place.wetness() < least)) {
                    least = place.wetness();
                }
            }
            return least;
        }

        int bundlesThatFit(Order wish) {
            int sum = 0;
            for (Hook place : hooks) {
                if (place.fits(wish)) {
                    sum++;
                }
            }
            return sum;
        }
    }
}
