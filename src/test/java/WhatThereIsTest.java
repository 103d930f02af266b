/** Promises 11 to 14. */
public final class WhatThereIsTest {
    public static void main(String[] args) {
        told();
        toldWrong();
        about();
        asked();
        count();
        Check.end();
    }

    private static void told() {
        HerbLoft x = new HerbLoft();
        x.herb(3, 90);
        x.herb(4, 20);
        x.hang(1, 0, 0, 80);
        x.hang(1, 1, 1, 60);
        x.hang(1, 2, 0, 80);
        x.hang(1, 7, 1, 60);
        x.hang(2, 0, 1, 99);
        x.pass(3, 0);
        int[] due = {1, 51, 57, 54, 3, 1, 2, 2};
        for (int what = 0; what <= 7; what++) {
            Check.due("told(1, 1, " + what + ")", x.told(1, 1, what), due[what]);
        }
        int[] dueAtTheEnd = {1, 45, 54, 49, 3, 1, 0, 0};
        for (int what = 0; what <= 7; what++) {
            Check.due("told(1, 7, " + what + ")", x.told(1, 7, what), dueAtTheEnd[what]);
            Check.due("told(1, 6, " + what + "), empty", x.told(1, 6, what), -1);
        }
        Check.due("told(1, 0, 6)", x.told(1, 0, 6), 1);
        Check.due("told(1, 0, 7)", x.told(1, 0, 7), 0);
        Check.due("told(2, 0, 6), no neighbour of string 1", x.told(2, 0, 6), 0);

        HerbLoft y = new HerbLoft();
        y.herb(3, 90);
        y.hang(0, 0, 0, 50);
        y.hang(0, 1, 0, 50);
        y.hang(0, 2, 0, 51);
        Check.due("told: an equal and a wetter one", y.told(0, 1, 7), 1);
        Check.due("told: both are neighbours", y.told(0, 1, 6), 2);
    }

    private static void toldWrong() {
        HerbLoft x = new HerbLoft();
        x.herb(3, 90);
        x.hang(0, 0, 0, 80);
        Check.fails("told(-1, 0, 0)", Check.INDEX, x, () -> x.told(-1, 0, 0));
        Check.fails("told(5, 0, 0)", Check.INDEX, x, () -> x.told(5, 0, 0));
        Check.fails("told(0, -1, 0)", Check.INDEX, x, () -> x.told(0, -1, 0));
        Check.fails("told(0, 8, 0)", Check.INDEX, x, () -> x.told(0, 8, 0));
        Check.fails("told(0, 0, -1)", Check.INDEX, x, () -> x.told(0, 0, -1));
        Check.fails("told(0, 0, 8)", Check.INDEX, x, () -> x.told(0, 0, 8));
        Check.fails("told(1, 1, 8), empty", Check.INDEX, x, () -> x.told(1, 1, 8));
    }

    private static void about() {
        HerbLoft x = new HerbLoft();
        x.herb(1, 50);
        x.herb(2, 40);
        x.hang(0, 0, 0, 60);
        x.hang(0, 2, 0, 30);
        x.hang(0, 4, 0, 20);
        x.hang(0, 6, 0, 40);
        x.hang(1, 0, 1, 5);
        Check.due("about(0, 0)", x.about(0, 0), 1);
        Check.due("about(0, 1)", x.about(0, 1), 50);
        Check.due("about(0, 2)", x.about(0, 2), 4);
        Check.due("about(0, 3)", x.about(0, 3), 0);
        Check.due("about(0, 4)", x.about(0, 4), 20);
        Check.due("about(1, 2)", x.about(1, 2), 1);
        Check.due("about(1, 4)", x.about(1, 4), 5);
        x.pass(3, 9);
        Check.due("about(0, 3), one got mouldy", x.about(0, 3), 1);
        Check.due("about(1, 3)", x.about(1, 3), 0);
        x.take(0, 2);
        x.take(0, 4);
        x.take(0, 6);
        Check.due("about(0, 2), the mouldy one is left", x.about(0, 2), 1);
        Check.due("about(0, 4), the mouldy one is left", x.about(0, 4), -1);
        x.hang(0, 7, 0, 70);
        Check.due("about(0, 4), a wetter one without mould", x.about(0, 4), 70);
        x.take(1, 0);
        Check.due("about(1, 2), none", x.about(1, 2), 0);
        Check.due("about(1, 4), none", x.about(1, 4), -1);
        x.hang(1, 0, 1, 0);
        Check.due("about(1, 4), a dry one", x.about(1, 4), 0);
        Check.fails("about(-1, 0)", Check.INDEX, x, () -> x.about(-1, 0));
        Check.fails("about(2, 0)", Check.INDEX, x, () -> x.about(2, 0));
        Check.fails("about(0, -1)", Check.INDEX, x, () -> x.about(0, -1));
        Check.fails("about(0, 5)", Check.INDEX, x, () -> x.about(0, 5));
    }

    private static void asked() {
        HerbLoft x = new HerbLoft();
        x.herb(1, 50);
        x.herb(1, 50);
        x.hang(0, 0, 0, 60);
        x.pass(3, 9);
        x.hang(1, 0, 0, 60);
        x.hang(1, 2, 0, 61);
        x.hang(1, 4, 1, 60);
        x.hang(1, 6, 0, 0);
        x.order(0, 1, 60);
        Check.due("asked(0, 0)", x.asked(0, 0), 0);
        Check.due("asked(0, 1)", x.asked(0, 1), 1);
        Check.due("asked(0, 2)", x.asked(0, 2), 60);
        Check.due("asked(0, 3)", x.asked(0, 3), 0);
        Check.due("asked(0, 4): not the mouldy, the wetter, the other", x.asked(0, 4), 2);
        x.order(1, 3, 59);
        Check.due("asked(1, 0)", x.asked(1, 0), 1);
        Check.due("asked(1, 4): too wet", x.asked(1, 4), 0);
        x.fill();
        Check.due("asked(0, 3), filled", x.asked(0, 3), 1);
        Check.due("asked(0, 4), what fits it though it needs none", x.asked(0, 4), 1);
        Check.fails("asked(-1, 0)", Check.INDEX, x, () -> x.asked(-1, 0));
        Check.fails("asked(2, 0)", Check.INDEX, x, () -> x.asked(2, 0));
        Check.fails("asked(0, -1)", Check.INDEX, x, () -> x.asked(0, -1));
        Check.fails("asked(0, 5)", Check.INDEX, x, () -> x.asked(0, 5));
    }

    private static void count() {
        HerbLoft x = new HerbLoft();
        x.herb(1, 20);
        x.herb(2, 30);
        x.herb(9, 90);
        x.setWindow(2);
        x.hang(0, 0, 0, 90);
        x.hang(0, 2, 1, 80);
        x.hang(0, 4, 2, 51);
        x.hang(0, 6, 2, 0);
        x.pass(4, 9);
        x.order(2, 1, 60);
        x.order(2, 3, 60);
        x.fill();
        x.hang(3, 3, 2, 33);
        x.hang(3, 4, 2, 32);
        x.pass(1, 9);
        int[] due = {5, 3, 4, 2, 2, 1, 2, 2, 225};
        for (int what = 0; what <= 8; what++) {
            Check.due("count(" + what + ")", x.count(what), due[what]);
        }
        Check.fails("count(-1)", Check.INDEX, x, () -> x.count(-1));
        Check.fails("count(9)", Check.INDEX, x, () -> x.count(9));
    }
}
