/** Promises 15 to 19. */
public final class WhatWouldBeTest {
    public static void main(String[] args) {
        until();
        untilNinety();
        untilWrong();
        foresee();
        foreseeWrong();
        adviseBySum();
        adviseByMould();
        adviseWrong();
        mean();
        digest();
        Check.end();
    }

    private static void until() {
        HerbLoft x = new HerbLoft();
        x.herb(3, 50);
        x.hang(0, 0, 0, 80);
        x.hang(0, 1, 0, 90);
        x.hang(3, 0, 0, 80);
        long before = x.digest();
        Check.due("until(3, 0, 80, 0), now", x.until(3, 0, 80, 0), 0);
        Check.due("until(3, 0, 100, 9), now", x.until(3, 0, 100, 9), 0);
        Check.due("until(3, 0, 79, 0): 74 and 77", x.until(3, 0, 79, 0), 1);
        Check.due("until(3, 0, 75, 0)", x.until(3, 0, 75, 0), 1);
        Check.due("until(3, 0, 74, 0)", x.until(3, 0, 74, 0), 2);
        Check.due("until(3, 0, 71, 0)", x.until(3, 0, 71, 0), 2);
        Check.due("until(3, 0, 75, 3), of more damp", x.until(3, 0, 75, 3), 3);
        Check.due("until(0, 0, 76, 0), beside a wetter one", x.until(0, 0, 76, 0), 3);
        Check.due("until(0, 1, 84, 0), beside a drier one", x.until(0, 1, 84, 0), 3);
        Check.due("until(0, 0, 79, 9)", x.until(0, 0, 79, 9), -1);
        Check.due("until(0, 2, 50, 0), empty", x.until(0, 2, 50, 0), -1);
        Check.due("until(0, 2, 100, 0), empty", x.until(0, 2, 100, 0), -1);
        Check.due("until: nothing is changed", x.digest(), before);
        x.setWindow(3);
        Check.due("until(3, 0, 71, 0), the window open", x.until(3, 0, 71, 0), 1);
    }

    private static void untilNinety() {
        HerbLoft x = new HerbLoft();
        x.herb(1, 90);
        x.hang(0, 0, 0, 100);
        Check.due("until(0, 0, 55, 0)", x.until(0, 0, 55, 0), 89);
        Check.due("until(0, 0, 54, 0), 91 days", x.until(0, 0, 54, 0), -1);
        x.pass(1, 0);
        Check.due("until(0, 0, 54, 0), a day later", x.until(0, 0, 54, 0), 90);
        Check.due("until(0, 0, 53, 0)", x.until(0, 0, 53, 0), -1);
    }

    private static void untilWrong() {
        HerbLoft x = new HerbLoft();
        x.herb(1, 90);
        x.hang(0, 0, 0, 100);
        Check.fails("until(-1, 0, 50, 0)", Check.INDEX, x, () -> x.until(-1, 0, 50, 0));
        Check.fails("until(5, 0, 50, 0)", Check.INDEX, x, () -> x.until(5, 0, 50, 0));
        Check.fails("until(0, -1, 50, 0)", Check.INDEX, x, () -> x.until(0, -1, 50, 0));
        Check.fails("until(0, 8, 50, 0)", Check.INDEX, x, () -> x.until(0, 8, 50, 0));
        Check.fails("until(0, 0, -1, 0)", Check.ARGUMENT, x, () -> x.until(0, 0, -1, 0));
        Check.fails("until(0, 0, 101, 0)", Check.ARGUMENT, x, () -> x.until(0, 0, 101, 0));
        Check.fails("until(0, 0, 50, -1)", Check.ARGUMENT, x, () -> x.until(0, 0, 50, -1));
        Check.fails("until(0, 0, 50, 10)", Check.ARGUMENT, x, () -> x.until(0, 0, 50, 10));
        Check.fails("until(1, 0, 101, 0), empty", Check.ARGUMENT, x, () -> x.until(1, 0, 101, 0));
        Check.fails("until(5, 0, 101, 10)", Check.INDEX, x, () -> x.until(5, 0, 101, 10));
    }

    private static void foresee() {
        HerbLoft x = new HerbLoft();
        x.herb(3, 50);
        x.herb(6, 35);
        x.hang(0, 0, 0, 80);
        x.hang(0, 1, 0, 90);
        x.hang(0, 2, 1, 60);
        x.hang(4, 7, 1, 100);
        x.hang(2, 4, 0, 40);
        long before = x.digest();
        Check.due("foresee(1, 1, 8): 79, 88, 57, 93 and 37", x.foresee(1, 1, 8), 354);
        Check.due("foresee(1, 1, 3)", x.foresee(1, 1, 3), 0);
        Check.due("foresee(2, 1, 3)", x.foresee(2, 1, 3), 0);
        Check.due("foresee(3, 1, 3)", x.foresee(3, 1, 3), 4);
        int sum = x.foresee(60, 2, 8);
        int mouldy = x.foresee(60, 2, 3);
        Check.due("foresee: nothing is changed", x.digest(), before);
        Check.due("foresee(60, 2, 3) comes true", x.pass(60, 2), mouldy);
        Check.due("foresee(60, 2, 8) comes true", x.count(8), sum);
    }

    private static void foreseeWrong() {
        HerbLoft x = new HerbLoft();
        Check.due("foresee(60, 9, 3), empty", x.foresee(60, 9, 3), 0);
        Check.due("foresee(1, 0, 8), empty", x.foresee(1, 0, 8), 0);
        x.herb(3, 50);
        x.hang(0, 0, 0, 80);
        Check.fails("foresee(0, 0, 3)", Check.ARGUMENT, x, () -> x.foresee(0, 0, 3));
        Check.fails("foresee(61, 0, 3)", Check.ARGUMENT, x, () -> x.foresee(61, 0, 3));
        Check.fails("foresee(1, -1, 3)", Check.ARGUMENT, x, () -> x.foresee(1, -1, 3));
        Check.fails("foresee(1, 10, 3)", Check.ARGUMENT, x, () -> x.foresee(1, 10, 3));
        for (int what = -1; what <= 9; what++) {
            int asked = what;
            if (what != 3 && what != 8) {
                Check.fails("foresee(1, 0, " + what + ")", Check.INDEX, x, () -> x.foresee(1, 0, asked));
            }
        }
        Check.fails("foresee(0, 0, 4)", Check.ARGUMENT, x, () -> x.foresee(0, 0, 4));
        Check.fails("foresee(1, 10, 4)", Check.ARGUMENT, x, () -> x.foresee(1, 10, 4));
    }

    private static void adviseBySum() {
        HerbLoft x = new HerbLoft();
        x.herb(9, 90);
        x.herb(7, 90);
        Check.due("advise(30, 0), empty", x.advise(30, 0), -1);
        x.hang(3, 0, 1, 20);
        x.hang(1, 0, 0, 20);
        Check.due("advise(1, 0), both sides alike", x.advise(1, 0), -1);
        x.pass(2, 0);
        long before = x.digest();
        Check.due("advise(1, 0): 1 and 3 alike, 2 for each", x.advise(1, 0), 1);
        Check.due("advise(1, 9): 9 / 2 instead of 10 / 2 for each", x.advise(1, 9), 1);
        Check.due("advise(30, 0): all would be dry anyhow", x.advise(30, 0), -1);
        Check.due("advise: nothing is changed", x.digest(), before);
        x.hang(3, 7, 1, 20);
        x.move(1, 0, 1, 5);
        Check.due("advise(1, 0) with a new one on 3", x.advise(1, 0), 1);
        x.take(1, 5);
        Check.due("advise(1, 0) without that on 1", x.advise(1, 0), 3);
        x.turn(3);
        Check.due("advise(1, 0) when it is turned", x.advise(1, 0), -1);
    }

    // Turning string 0 would make the sum less by 12, but turning 4, by 10 only, holds back
    // the mould of the bundle there at 2, so that it does not go on to its neighbour.
    private static void adviseByMould() {
        HerbLoft x = new HerbLoft();
        x.herb(9, 20);
        x.herb(9, 90);
        x.setWindow(3);
        x.hang(4, 0, 0, 90);
        x.hang(4, 1, 1, 0);
        x.hang(0, 0, 1, 50);
        x.hang(0, 1, 1, 50);
        x.hang(0, 2, 1, 50);
        Check.due("pass(4, 0)", x.pass(4, 0), 1);
        Check.due("the mould there", x.told(4, 0, 5), 2);
        Check.due("without turning, two", x.foresee(2, 0, 3), 2);
        Check.due("advise(2, 0), mould first", x.advise(2, 0), 4);
        x.take(4, 1);
        Check.due("advise(2, 0), without the neighbour", x.advise(2, 0), 0);
    }

    private static void adviseWrong() {
        HerbLoft x = new HerbLoft();
        x.herb(3, 50);
        x.hang(0, 0, 0, 80);
        Check.fails("advise(0, 0)", Check.ARGUMENT, x, () -> x.advise(0, 0));
        Check.fails("advise(31, 0)", Check.ARGUMENT, x, () -> x.advise(31, 0));
        Check.fails("advise(1, -1)", Check.ARGUMENT, x, () -> x.advise(1, -1));
        Check.fails("advise(1, 10)", Check.ARGUMENT, x, () -> x.advise(1, 10));
    }

    private static void mean() {
        HerbLoft x = new HerbLoft();
        Check.due("mean(), empty", x.mean(), 0.0);
        x.herb(3, 50);
        x.hang(0, 0, 0, 80);
        Check.due("mean() of 80", x.mean(), 80.0);
        x.hang(0, 2, 0, 39);
        Check.due("mean() of 80 and 39", x.mean(), 59.5);
        x.hang(0, 4, 0, 1);
        Check.due("mean() of 80, 39 and 1", x.mean(), 40.0);
        x.hang(0, 6, 0, 0);
        x.take(0, 4);
        x.pass(1, 2);
        Check.due("mean() of 79, 38 and 0, each cut", x.mean(), 39.0);
        x.take(0, 0);
        x.take(0, 2);
        Check.due("mean() of 0", x.mean(), 0.0);
    }

    private static void digest() {
        HerbLoft x = new HerbLoft();
        Check.due("digest(), empty", x.digest(), digestOfTold(x));
        HerbLoft y = new HerbLoft();
        y.herb(2, 20);
        y.herb(9, 90);
        y.setWindow(1);
        y.hang(0, 0, 0, 90);
        y.hang(0, 1, 1, 60);
        y.hang(4, 7, 1, 20);
        y.hang(3, 2, 1, 20);
        y.order(1, 1, 30);
        y.order(0, 2, 60);
        y.pass(6, 2);
        y.fill();
        Check.due("digest()", y.digest(), digestOfTold(y));
        Check.due("digest() again", y.digest(), y.digest());
    }

    /** What the digest must be, from what the other calls tell. */
    private static long digestOfTold(HerbLoft x) {
        long d = 1831;
        for (int what = 0; what < 9; what++) {
            d = d * 31 + x.count(what);
        }
        int herbs = x.count(1);
        for (int i = 0; i < herbs * 5; i++) {
            d = d * 31 + x.about(i / 5, i % 5);
        }
        int orders = x.count(4);
        for (int i = 0; i < orders * 5; i++) {
            d = d * 31 + x.asked(i / 5, i % 5);
        }
        for (int i = 0; i < 5 * 8 * 6; i++) {
            d = d * 31 + x.told(i / 48, i / 6 % 8, i % 6);
        }
        return d;
    }
}
