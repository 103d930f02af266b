/** Promises 1 to 7. */
public final class HerbsAndBundlesTest {
    public static void main(String[] args) {
        newObject();
        herb();
        herbWrong();
        hang();
        hangWrong();
        take();
        move();
        moveWrong();
        turn();
        setWindow();
        Check.end();
    }

    private static void newObject() {
        HerbLoft x = new HerbLoft();
        for (int what = 0; what <= 8; what++) {
            Check.due("new: count(" + what + ")", x.count(what), 0);
        }
        for (int string = 0; string < 5; string++) {
            for (int hook = 0; hook < 8; hook++) {
                Check.due("new: told(" + string + ", " + hook + ", 0)", x.told(string, hook, 0), -1);
            }
        }
        Check.fails("new: about(0, 0)", Check.INDEX, x, () -> x.about(0, 0));
        Check.fails("new: asked(0, 0)", Check.INDEX, x, () -> x.asked(0, 0));

        HerbLoft other = new HerbLoft();
        other.herb(5, 50);
        other.hang(0, 0, 0, 50);
        Check.due("new: objects are apart", x.count(2), 0);
    }

    private static void herb() {
        HerbLoft x = new HerbLoft();
        Check.due("herb(1, 20)", x.herb(1, 20), 0);
        Check.due("herb(9, 90)", x.herb(9, 90), 1);
        Check.due("herb(5, 50)", x.herb(5, 50), 2);
        Check.due("herb(5, 50) again", x.herb(5, 50), 3);
        Check.due("herb: the ease of 0", x.about(0, 0), 1);
        Check.due("herb: the limit of 0", x.about(0, 1), 20);
        Check.due("herb: the ease of 1", x.about(1, 0), 9);
        Check.due("herb: the limit of 1", x.about(1, 1), 90);
        Check.due("herb: how many", x.count(1), 4);
    }

    private static void herbWrong() {
        HerbLoft x = new HerbLoft();
        Check.fails("herb(0, 50)", Check.ARGUMENT, x, () -> x.herb(0, 50));
        Check.fails("herb(10, 50)", Check.ARGUMENT, x, () -> x.herb(10, 50));
        Check.fails("herb(5, 19)", Check.ARGUMENT, x, () -> x.herb(5, 19));
        Check.fails("herb(5, 91)", Check.ARGUMENT, x, () -> x.herb(5, 91));
        for (int i = 0; i < 6; i++) {
            Check.due("herb number " + i, x.herb(i + 1, 30), i);
        }
        Check.fails("a seventh herb", Check.STATE, x, () -> x.herb(1, 20));
        Check.fails("a seventh herb, wrong too", Check.ARGUMENT, x, () -> x.herb(0, 20));
        Check.fails("a seventh herb, wrong limit", Check.ARGUMENT, x, () -> x.herb(1, 19));
    }

    private static void hang() {
        HerbLoft x = new HerbLoft();
        x.herb(3, 50);
        x.herb(6, 35);
        Check.due("hang(0, 0, 0, 0)", x.hang(0, 0, 0, 0), 1);
        Check.due("hang(4, 7, 1, 100)", x.hang(4, 7, 1, 100), 2);
        Check.due("hang(4, 0, 1, 33)", x.hang(4, 0, 1, 33), 3);
        Check.due("hang: herb", x.told(4, 7, 0), 1);
        Check.due("hang: front", x.told(4, 7, 1), 100);
        Check.due("hang: back", x.told(4, 7, 2), 100);
        Check.due("hang: wet days", x.told(4, 7, 4), 0);
        Check.due("hang: mould", x.told(4, 7, 5), 0);
        Check.due("hang: the other hook's front", x.told(4, 0, 1), 33);
        Check.due("hang: the driest", x.told(0, 0, 3), 0);

        HerbLoft again = new HerbLoft();
        again.herb(1, 20);
        again.hang(0, 0, 0, 100);
        again.pass(5, 9);
        again.take(0, 0);
        Check.due("hang where a mouldy one was", again.hang(0, 0, 0, 10), 1);
        Check.due("hang: new wet days", again.told(0, 0, 4), 0);
        Check.due("hang: new mould", again.told(0, 0, 5), 0);
    }

    private static void hangWrong() {
        HerbLoft x = new HerbLoft();
        Check.fails("hang without herbs", Check.INDEX, x, () -> x.hang(0, 0, 0, 10));
        x.herb(3, 50);
        x.hang(0, 0, 0, 10);
        Check.fails("hang(-1, 1, 0, 10)", Check.INDEX, x, () -> x.hang(-1, 1, 0, 10));
        Check.fails("hang(5, 1, 0, 10)", Check.INDEX, x, () -> x.hang(5, 1, 0, 10));
        Check.fails("hang(0, -1, 0, 10)", Check.INDEX, x, () -> x.hang(0, -1, 0, 10));
        Check.fails("hang(0, 8, 0, 10)", Check.INDEX, x, () -> x.hang(0, 8, 0, 10));
        Check.fails("hang(0, 1, -1, 10)", Check.INDEX, x, () -> x.hang(0, 1, -1, 10));
        Check.fails("hang(0, 1, 1, 10)", Check.INDEX, x, () -> x.hang(0, 1, 1, 10));
        Check.fails("hang(0, 1, 0, -1)", Check.ARGUMENT, x, () -> x.hang(0, 1, 0, -1));
        Check.fails("hang(0, 1, 0, 101)", Check.ARGUMENT, x, () -> x.hang(0, 1, 0, 101));
        Check.fails("hang(0, 0, 0, 10)", Check.STATE, x, () -> x.hang(0, 0, 0, 10));
        Check.fails("hang(0, 0, 0, 101)", Check.ARGUMENT, x, () -> x.hang(0, 0, 0, 101));
        Check.fails("hang(0, 0, 1, 101)", Check.INDEX, x, () -> x.hang(0, 0, 1, 101));
        Check.fails("hang(5, 0, 0, 101)", Check.INDEX, x, () -> x.hang(5, 0, 0, 101));
    }

    private static void take() {
        HerbLoft x = new HerbLoft();
        x.herb(3, 50);
        x.hang(1, 2, 0, 80);
        x.hang(1, 3, 0, 10);
        x.pass(1, 0);
        Check.due("take(1, 2): front 76, back 78", x.take(1, 2), 77);
        Check.due("take: bundles", x.count(2), 1);
        Check.due("take: the hook", x.told(1, 2, 0), -1);
        Check.due("take: the neighbour", x.told(1, 3, 6), 0);
        Check.fails("take(1, 2) again", Check.STATE, x, () -> x.take(1, 2));
        Check.fails("take(-1, 3)", Check.INDEX, x, () -> x.take(-1, 3));
        Check.fails("take(5, 3)", Check.INDEX, x, () -> x.take(5, 3));
        Check.fails("take(1, -1)", Check.INDEX, x, () -> x.take(1, -1));
        Check.fails("take(1, 8)", Check.INDEX, x, () -> x.take(1, 8));
    }

    private static void move() {
        HerbLoft x = new HerbLoft();
        x.herb(1, 20);
        x.herb(2, 20);
        x.hang(0, 0, 1, 90);
        x.hang(3, 3, 0, 10);
        x.hang(3, 5, 0, 10);
        x.pass(4, 0);
        Check.due("move(0, 0, 3, 4)", x.move(0, 0, 3, 4), 2);
        Check.due("move: bundles", x.count(2), 3);
        Check.due("move: the first hook", x.told(0, 0, 0), -1);
        Check.due("move: herb", x.told(3, 4, 0), 1);
        Check.due("move: front", x.told(3, 4, 1), 82);
        Check.due("move: back", x.told(3, 4, 2), 86);
        Check.due("move: wet days", x.told(3, 4, 4), 4);
        Check.due("move: mould", x.told(3, 4, 5), 2);
        Check.due("move(3, 5, 3, 6), away from its neighbour", x.move(3, 5, 3, 6), 0);
        Check.due("move(3, 6, 3, 5), back", x.move(3, 6, 3, 5), 1);
        Check.due("move(3, 3, 2, 7)", x.move(3, 3, 2, 7), 0);
        Check.due("move(3, 5, 3, 0), no neighbour of string 2", x.move(3, 5, 3, 0), 0);
    }

    private static void moveWrong() {
        HerbLoft x = new HerbLoft();
        x.herb(1, 20);
        x.hang(0, 0, 0, 90);
        x.hang(0, 1, 0, 80);
        Check.fails("move(-1, 0, 1, 1)", Check.INDEX, x, () -> x.move(-1, 0, 1, 1));
        Check.fails("move(5, 0, 1, 1)", Check.INDEX, x, () -> x.move(5, 0, 1, 1));
        Check.fails("move(0, -1, 1, 1)", Check.INDEX, x, () -> x.move(0, -1, 1, 1));
        Check.fails("move(0, 8, 1, 1)", Check.INDEX, x, () -> x.move(0, 8, 1, 1));
        Check.fails("move(0, 0, -1, 1)", Check.INDEX, x, () -> x.move(0, 0, -1, 1));
        Check.fails("move(0, 0, 5, 1)", Check.INDEX, x, () -> x.move(0, 0, 5, 1));
        Check.fails("move(0, 0, 1, -1)", Check.INDEX, x, () -> x.move(0, 0, 1, -1));
        Check.fails("move(0, 0, 1, 8)", Check.INDEX, x, () -> x.move(0, 0, 1, 8));
        Check.fails("move(0, 5, 1, 8), from an empty hook", Check.INDEX, x, () -> x.move(0, 5, 1, 8));
        Check.fails("move(0, 5, 1, 1)", Check.STATE, x, () -> x.move(0, 5, 1, 1));
        Check.fails("move(0, 5, 0, 5)", Check.STATE, x, () -> x.move(0, 5, 0, 5));
        Check.fails("move(0, 0, 0, 1)", Check.STATE, x, () -> x.move(0, 0, 0, 1));
        Check.fails("move(0, 0, 0, 0)", Check.STATE, x, () -> x.move(0, 0, 0, 0));
    }

    private static void turn() {
        HerbLoft x = new HerbLoft();
        x.herb(4, 90);
        x.hang(2, 0, 0, 50);
        x.hang(2, 7, 0, 30);
        x.hang(3, 0, 0, 50);
        x.pass(1, 0);
        Check.due("turn(2)", x.turn(2), 2);
        Check.due("turn: front of the first", x.told(2, 0, 1), 47);
        Check.due("turn: back of the first", x.told(2, 0, 2), 44);
        Check.due("turn: front of the second", x.told(2, 7, 1), 27);
        Check.due("turn: back of the second", x.told(2, 7, 2), 24);
        Check.due("turn: front on another string", x.told(3, 0, 1), 43);
        Check.due("turn: back on another string", x.told(3, 0, 2), 47);
        Check.due("turn(0), empty", x.turn(0), 0);
        Check.due("turn(4), empty", x.turn(4), 0);
        Check.fails("turn(-1)", Check.INDEX, x, () -> x.turn(-1));
        Check.fails("turn(5)", Check.INDEX, x, () -> x.turn(5));
    }

    private static void setWindow() {
        HerbLoft x = new HerbLoft();
        Check.due("setWindow(3)", x.setWindow(3), 0);
        Check.due("setWindow(1)", x.setWindow(1), 3);
        Check.due("setWindow: the window", x.count(7), 1);
        Check.fails("setWindow(-1)", Check.ARGUMENT, x, () -> x.setWindow(-1));
        Check.fails("setWindow(4)", Check.ARGUMENT, x, () -> x.setWindow(4));
        Check.due("setWindow(0)", x.setWindow(0), 1);
        Check.due("setWindow(0) again", x.setWindow(0), 0);
    }
}
