/**
 * The document a second time, as plainly as its words go, over bare arrays: what HerbLoft is
 * compared with. Where a call throws, it answers INDEX, ARGUMENT or STATE.
 */
final class Model {
    static final long INDEX = Long.MIN_VALUE;
    static final long ARGUMENT = Long.MIN_VALUE + 1;
    static final long STATE = Long.MIN_VALUE + 2;

    // Of each bundle: 0 herb (-1 for none), 1 front, 2 back, 3 wet days, 4 mould.
    int[][][] on = new int[5][8][5];
    int[][] herbs = new int[6][2];
    int[][] orders = new int[6][4];
    int herbCount;
    int orderCount;
    int given;
    int window;
    int day;

    Model() {
        for (int[][] string : on) {
            for (int[] bundle : string) {
                bundle[0] = -1;
            }
        }
    }

    private Model copy() {
        Model copy = new Model();
        for (int s = 0; s < 5; s++) {
            for (int h = 0; h < 8; h++) {
                copy.on[s][h] = on[s][h].clone();
            }
        }
        copy.herbs = herbs;
        copy.window = window;
        return copy;
    }

    private static boolean out(int x, int from, int to) {
        return x < from || x > to;
    }

    private static boolean noHook(int s, int h) {
        return out(s, 0, 4) || out(h, 0, 7);
    }

    private int wetness(int s, int h) {
        return (on[s][h][1] + on[s][h][2]) / 2;
    }

    /** Neighbours that are wetter than this (-1: all). */
    private int neighbours(int s, int h, int than) {
        int n = 0;
        for (int k = h - 1; k <= h + 1; k += 2) {
            if (!noHook(s, k) && on[s][k][0] >= 0 && wetness(s, k) > than) {
                n++;
            }
        }
        return n;
    }

    private void oneDay(int damp) {
        Model dawn = copy();
        for (int s = 0; s < 5; s++) {
            for (int h = 0; h < 8; h++) {
                int[] b = on[s][h];
                if (b[0] < 0) {
                    continue;
                }
                int force = herbs[b[0]][0] + s + 2 * window - damp
                        - dawn.neighbours(s, h, dawn.wetness(s, h));
                force = force < 0 ? 0 : force;
                b[1] = b[1] < force ? 0 : b[1] - force;
                b[2] = b[2] < force / 2 ? 0 : b[2] - force / 2;
                if (wetness(s, h) > herbs[b[0]][1]) {
                    b[3]++;
                } else {
                    b[3] = 0;
                }
                if (b[3] >= 3 && b[4] < 9) {
                    b[4]++;
                }
                for (int k = h - 1; k <= h + 1; k += 2) {
                    if (b[4] == 0 && !noHook(s, k) && dawn.on[s][k][0] >= 0 && dawn.on[s][k][4] >= 3) {
                        b[4] = 1;
                    }
                }
            }
        }
        day++;
    }

    private boolean fits(int o, int s, int h) {
        int[] b = on[s][h];
        return b[0] == orders[o][0] && wetness(s, h) <= orders[o][2] && b[4] == 0;
    }

    long herb(int ease, int limit) {
        if (out(ease, 1, 9) || out(limit, 20, 90)) {
            return ARGUMENT;
        }
        if (herbCount == 6) {
            return STATE;
        }
        herbs[herbCount] = new int[] {ease, limit};
        return herbCount++;
    }

    long hang(int s, int h, int herb, int wet) {
        if (noHook(s, h) || out(herb, 0, herbCount - 1)) {
            return INDEX;
        }
        if (out(wet, 0, 100)) {
            return ARGUMENT;
        }
        if (on[s][h][0] >= 0) {
            return STATE;
        }
        on[s][h] = new int[] {herb, wet, wet, 0, 0};
        return count(2);
    }

    long take(int s, int h) {
        if (noHook(s, h)) {
            return INDEX;
        }
        if (on[s][h][0] < 0) {
            return STATE;
        }
        int wetness = wetness(s, h);
        on[s][h][0] = -1;
        return wetness;
    }

    long move(int s, int h, int s2, int h2) {
        if (noHook(s, h) || noHook(s2, h2)) {
            return INDEX;
        }
        if (on[s][h][0] < 0 || on[s2][h2][0] >= 0) {
            return STATE;
        }
        on[s2][h2] = on[s][h];
        on[s][h] = new int[] {-1, 0, 0, 0, 0};
        return neighbours(s2, h2, -1);
    }

    long turn(int s) {
        if (out(s, 0, 4)) {
            return INDEX;
        }
        int n = 0;
        for (int[] b : on[s]) {
            if (b[0] >= 0) {
                int front = b[1];
                b[1] = b[2];
                b[2] = front;
                n++;
            }
        }
        return n;
    }

    long setWindow(int open) {
        if (out(open, 0, 3)) {
            return ARGUMENT;
        }
        int was = window;
        window = open;
        return was;
    }

    long order(int herb, int many, int wet) {
        if (out(herb, 0, herbCount - 1)) {
            return INDEX;
        }
        if (out(many, 1, 9) || out(wet, 0, 60)) {
            return ARGUMENT;
        }
        if (orderCount == 6) {
            return STATE;
        }
        orders[orderCount] = new int[] {herb, many, wet, 0};
        return orderCount++;
    }

    long fill() {
        int n = 0;
        for (int o = 0; o < orderCount; o++) {
            for (int i = 0; i < 40; i++) {
                int s = 4 - i / 8;
                int h = i % 8;
                if (orders[o][3] < orders[o][1] && fits(o, s, h)) {
                    on[s][h][0] = -1;
                    orders[o][3]++;
                    n++;
                }
            }
        }
        given += n;
        return n;
    }

    long pass(int days, int damp) {
        if (out(days, 1, 60) || out(damp, 0, 9)) {
            return ARGUMENT;
        }
        for (int i = 0; i < days; i++) {
            oneDay(damp);
        }
        return count(3);
    }

    long told(int s, int h, int what) {
        if (noHook(s, h) || out(what, 0, 7)) {
            return INDEX;
        }
        int[] b = on[s][h];
        int[] all = {b[0], b[1], b[2], wetness(s, h), b[3], b[4],
            neighbours(s, h, -1), neighbours(s, h, wetness(s, h))};
        return b[0] < 0 ? -1 : all[what];
    }

    long about(int herb, int what) {
        if (out(herb, 0, herbCount - 1) || out(what, 0, 4)) {
            return INDEX;
        }
        int bundles = 0;
        int mouldy = 0;
        int least = 1000;
        for (int i = 0; i < 40; i++) {
            int[] b = on[i / 8][i % 8];
            if (b[0] == herb) {
                bundles++;
                mouldy += b[4] > 0 ? 1 : 0;
                least = b[4] == 0 ? Math.min(least, wetness(i / 8, i % 8)) : least;
            }
        }
        int[] all = {herbs[herb][0], herbs[herb][1], bundles, mouldy, least == 1000 ? -1 : least};
        return all[what];
    }

    long asked(int order, int what) {
        if (out(order, 0, orderCount - 1) || out(what, 0, 4)) {
            return INDEX;
        }
        int fit = 0;
        for (int i = 0; i < 40; i++) {
            fit += fits(order, i / 8, i % 8) ? 1 : 0;
        }
        return what == 4 ? fit : orders[order][what];
    }

    long count(int what) {
        if (out(what, 0, 8)) {
            return INDEX;
        }
        int bundles = 0;
        int mouldy = 0;
        int sum = 0;
        for (int i = 0; i < 40; i++) {
            int[] b = on[i / 8][i % 8];
            if (b[0] >= 0) {
                bundles++;
                mouldy += b[4] > 0 ? 1 : 0;
                sum += wetness(i / 8, i % 8);
            }
        }
        int full = 0;
        for (int o = 0; o < orderCount; o++) {
            full += orders[o][3] == orders[o][1] ? 1 : 0;
        }
        int[] all = {day, herbCount, bundles, mouldy, orderCount, full, given, window, sum};
        return all[what];
    }

    long until(int s, int h, int wet, int damp) {
        if (noHook(s, h)) {
            return INDEX;
        }
        if (out(wet, 0, 100) || out(damp, 0, 9)) {
            return ARGUMENT;
        }
        Model would = copy();
        for (int days = 0; days <= 90 && on[s][h][0] >= 0; days++) {
            if (would.wetness(s, h) <= wet) {
                return days;
            }
            would.oneDay(damp);
        }
        return -1;
    }

    long foresee(int days, int damp, int what) {
        if (out(days, 1, 60) || out(damp, 0, 9)) {
            return ARGUMENT;
        }
        if (what != 3 && what != 8) {
            return INDEX;
        }
        Model would = copy();
        would.pass(days, damp);
        return would.count(what);
    }

    long advise(int days, int damp) {
        if (out(days, 1, 30) || out(damp, 0, 9)) {
            return ARGUMENT;
        }
        int best = -1;
        long mouldy = foresee(days, damp, 3);
        long sum = foresee(days, damp, 8);
        for (int s = 0; s < 5; s++) {
            Model would = copy();
            would.turn(s);
            would.pass(days, damp);
            if (would.count(3) < mouldy || (would.count(3) == mouldy && would.count(8) < sum)) {
                best = s;
                mouldy = would.count(3);
                sum = would.count(8);
            }
        }
        return best;
    }

    double mean() {
        return count(2) == 0 ? 0 : (double) count(8) / count(2);
    }

    long digest() {
        long d = 1831;
        for (int what = 0; what <= 8; what++) {
            d = d * 31 + count(what);
        }
        for (int i = 0; i < herbCount * 5; i++) {
            d = d * 31 + about(i / 5, i % 5);
        }
        for (int i = 0; i < orderCount * 5; i++) {
            d = d * 31 + asked(i / 5, i % 5);
        }
        for (int i = 0; i < 240; i++) {
            d = d * 31 + told(i / 48, i / 6 % 8, i % 6);
        }
        return d;
    }
}
