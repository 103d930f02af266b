/** Promise 10, and how a day goes. */
public final class DaysTest {
    public static void main(String[] args) {
        forces();
        forceAtLeastNothing();
        nothingBelowZero();
        wetnessAsTheDayBegins();
        wetDays();
        mouldGrows();
        mouldGoesOn();
        mouldStaysOnItsString();
        passWrong();
        Check.end();
    }

    private static void wet(String when, HerbLoft x, int string, int hook, int front, int back) {
        Check.due(when + ": front of " + string + ", " + hook, x.told(string, hook, 1), front);
        Check.due(when + ": back of " + string + ", " + hook, x.told(string, hook, 2), back);
    }

    private static void forces() {
        HerbLoft x = new HerbLoft();
        x.herb(3, 50);
        x.herb(6, 35);
        x.hang(0, 0, 0, 80);
        x.hang(0, 1, 0, 90);
        x.hang(0, 2, 1, 60);
        x.hang(2, 3, 1, 90);
        x.hang(2, 4, 1, 40);
        x.hang(2, 5, 1, 90);
        Check.due("pass(1, 1)", x.pass(1, 1), 0);
        wet("a wetter neighbour, force 1", x, 0, 0, 79, 80);
        wet("no wetter neighbour, force 2", x, 0, 1, 88, 89);
        wet("ease 6 and a wetter neighbour, force 4", x, 0, 2, 56, 58);
        wet("string 2, force 7", x, 2, 3, 83, 87);
        wet("string 2, two wetter neighbours, force 5", x, 2, 4, 35, 38);
        Check.due("forces: the day", x.count(0), 1);

        HerbLoft y = new HerbLoft();
        y.herb(9, 90);
        y.hang(4, 0, 0, 100);
        y.hang(4, 1, 0, 100);
        y.setWindow(3);
        y.pass(1, 0);
        wet("the greatest force, 19", y, 4, 0, 81, 91);
        wet("an equal neighbour is not wetter", y, 4, 1, 81, 91);
        y.setWindow(1);
        y.pass(1, 2);
        wet("then force 13", y, 4, 0, 68, 85);
    }

    private static void forceAtLeastNothing() {
        HerbLoft x = new HerbLoft();
        x.herb(1, 90);
        x.hang(0, 0, 0, 70);
        x.hang(0, 1, 0, 80);
        x.pass(60, 9);
        wet("no force", x, 0, 0, 70, 70);
        wet("no force", x, 0, 1, 80, 80);
        Check.due("no force: the day", x.count(0), 60);
    }

    private static void nothingBelowZero() {
        HerbLoft x = new HerbLoft();
        x.herb(5, 90);
        x.hang(0, 0, 0, 8);
        x.pass(2, 0);
        wet("the front is dry", x, 0, 0, 0, 4);
        x.pass(3, 0);
        wet("both are dry", x, 0, 0, 0, 0);
        Check.due("dry: wetness", x.told(0, 0, 3), 0);
    }

    private static void wetnessAsTheDayBegins() {
        HerbLoft x = new HerbLoft();
        x.herb(9, 90);
        x.herb(3, 90);
        x.hang(0, 0, 0, 60);
        x.hang(0, 1, 1, 58);
        x.hang(1, 0, 1, 58);
        x.hang(1, 1, 0, 60);
        x.pass(1, 0);
        wet("it was wetter as the day began", x, 0, 1, 56, 57);
        wet("it was wetter as the day began, on the other side", x, 1, 0, 55, 57);
    }

    private static void wetDays() {
        HerbLoft x = new HerbLoft();
        x.herb(1, 50);
        x.hang(0, 0, 0, 50);
        x.hang(0, 2, 0, 51);
        x.hang(1, 0, 0, 53);
        x.hang(1, 2, 0, 52);
        x.hang(2, 2, 0, 51);
        x.pass(1, 9);
        Check.due("as wet as the limit", x.told(0, 0, 4), 0);
        Check.due("more than the limit", x.told(0, 2, 4), 1);
        x.pass(1, 9);
        Check.due("more than the limit, again", x.told(0, 2, 4), 2);
        x.pass(1, 0);
        Check.due("front 51 becomes 50: wetness 50, no wet day", x.told(0, 2, 4), 0);
        Check.due("front 50, back 51: no mould", x.told(0, 2, 5), 0);
        Check.due("front 51, back 52: wetness 51", x.told(1, 0, 4), 3);
        Check.due("three wet days: mould", x.told(1, 0, 5), 1);
        Check.due("front 50, back 51: taken behind the drying", x.told(1, 2, 4), 0);
        Check.due("string 2: force 3, dry enough now", x.told(2, 2, 4), 0);
    }

    private static void mouldGrows() {
        HerbLoft x = new HerbLoft();
        x.herb(1, 50);
        x.hang(0, 0, 0, 100);
        Check.due("pass(2, 9)", x.pass(2, 9), 0);
        Check.due("pass(1, 9), the third wet day", x.pass(1, 9), 1);
        Check.due("mould of three days", x.told(0, 0, 5), 1);
        x.pass(7, 9);
        Check.due("mould of ten days", x.told(0, 0, 5), 8);
        x.pass(1, 9);
        Check.due("mould of eleven days", x.told(0, 0, 5), 9);
        x.pass(9, 9);
        Check.due("mould at most", x.told(0, 0, 5), 9);
        Check.due("wet days go on", x.told(0, 0, 4), 20);
        x.setWindow(3);
        Check.due("pass(60, 0)", x.pass(60, 0), 1);
        Check.due("mould stays when it is dry", x.told(0, 0, 5), 9);
        Check.due("wet days do not", x.told(0, 0, 4), 0);
    }

    private static void mouldGoesOn() {
        HerbLoft x = new HerbLoft();
        x.herb(1, 50);
        x.hang(0, 3, 0, 100);
        x.hang(0, 2, 0, 10);
        x.hang(0, 4, 0, 10);
        x.hang(0, 5, 0, 10);
        x.hang(0, 7, 0, 100);
        x.hang(0, 6, 0, 100);
        Check.due("pass(5, 9): the wet ones", x.pass(5, 9), 3);
        Check.due("mould 3 as the day ends", x.told(0, 3, 5), 3);
        Check.due("its neighbour has none yet", x.told(0, 2, 5), 0);
        Check.due("pass(1, 9): and their neighbours", x.pass(1, 9), 6);
        Check.due("the neighbour below", x.told(0, 2, 5), 1);
        Check.due("the neighbour above", x.told(0, 4, 5), 1);
        Check.due("mould beside mould grows alone", x.told(0, 6, 5), 4);
        x.pass(10, 9);
        Check.due("a dry neighbour has 1 still", x.told(0, 4, 5), 1);
        Check.due("a wet one goes on", x.told(0, 6, 5), 9);

        HerbLoft y = new HerbLoft();
        y.herb(1, 50);
        y.hang(0, 0, 0, 100);
        y.hang(0, 1, 0, 10);
        y.hang(0, 2, 0, 10);
        y.pass(60, 9);
        Check.due("mould 1 does not go on", y.told(0, 2, 5), 0);
        Check.due("but the first did", y.told(0, 1, 5), 1);
    }

    private static void mouldStaysOnItsString() {
        HerbLoft x = new HerbLoft();
        x.herb(1, 50);
        x.hang(1, 7, 0, 100);
        x.hang(2, 0, 0, 10);
        x.hang(2, 7, 0, 10);
        x.hang(0, 7, 0, 10);
        x.hang(1, 5, 0, 10);
        Check.due("pass(20, 9)", x.pass(20, 9), 1);
        Check.due("mould of the one", x.told(1, 7, 5), 9);
    }

    private static void passWrong() {
        HerbLoft x = new HerbLoft();
        Check.due("pass(60, 0), empty", x.pass(60, 0), 0);
        Check.due("the day", x.count(0), 60);
        x.herb(9, 20);
        x.hang(0, 0, 0, 90);
        Check.fails("pass(0, 0)", Check.ARGUMENT, x, () -> x.pass(0, 0));
        Check.fails("pass(61, 0)", Check.ARGUMENT, x, () -> x.pass(61, 0));
        Check.fails("pass(-1, 0)", Check.ARGUMENT, x, () -> x.pass(-1, 0));
        Check.fails("pass(1, -1)", Check.ARGUMENT, x, () -> x.pass(1, -1));
        Check.fails("pass(1, 10)", Check.ARGUMENT, x, () -> x.pass(1, 10));
    }
}
