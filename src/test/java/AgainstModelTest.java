import java.util.Random;

/** Many runs of 512 calls, always the same ones, whose answers are compared with the model's. */
public final class AgainstModelTest {
    private static final int RUNS = 400;
    private static final int CALLS = 512;
    private static final int[] FAR = {Integer.MIN_VALUE, -1000, 1000, 1 << 28, 1 << 29, Integer.MAX_VALUE};

    private final Random random;
    private final HerbLoft loft = new HerbLoft();
    private final Model model = new Model();
    private String call = "";
    // How often numbers are wrong, 1 of so many.
    private final int seldom;

    private AgainstModelTest(int run) {
        random = new Random(run);
        seldom = run % 3 == 0 ? 6 : 60;
    }

    public static void main(String[] args) {
        for (int run = 0; run < RUNS; run++) {
            if (!new AgainstModelTest(run).agrees(run)) {
                break;
            }
        }
        Check.end();
    }

    private boolean agrees(int run) {
        for (int i = 0; i < CALLS / 2; i++) {
            int which = random.nextInt(40);
            int[] a = numbersFor(which);
            long want = ofModel(which, a);
            long got;
            try {
                got = ofLoft(which, a);
            } catch (IndexOutOfBoundsException e) {
                got = e.getClass() == IndexOutOfBoundsException.class ? Model.INDEX : Long.MAX_VALUE;
            } catch (IllegalArgumentException e) {
                got = e.getClass() == IllegalArgumentException.class ? Model.ARGUMENT : Long.MAX_VALUE;
            } catch (IllegalStateException e) {
                got = e.getClass() == IllegalStateException.class ? Model.STATE : Long.MAX_VALUE;
            }
            if (got != want) {
                Check.note("run " + run + ", call " + i + ": " + call + " answered " + got + ", model " + want);
                return false;
            }
            if (loft.digest() != model.digest()) {
                Check.note("run " + run + ", call " + i + ": " + call + " left another state than the model's");
                return false;
            }
        }
        return true;
    }

    private int from(int least, int most) {
        int dice = random.nextInt(seldom * 4);
        if (dice == 0) {
            return least - 1;
        }
        if (dice == 1) {
            return most + 1;
        }
        if (dice == 2) {
            return FAR[random.nextInt(FAR.length)];
        }
        if (dice == 3) {
            return random.nextBoolean() ? least : most;
        }
        return least + random.nextInt(most - least + 1);
    }

    /** Numbers for the call, most of them right, and most hooks so that something happens there. */
    private int[] numbersFor(int which) {
        int herb = from(0, Math.max(0, (int) model.count(1) - 1));
        int order = from(0, Math.max(0, (int) model.count(4) - 1));
        switch (which) {
            case 0: case 1:
                return new int[] {from(1, 9), from(20, 90)};
            case 2: case 3: case 4: case 5: case 6: case 7: case 8: case 9: case 10:
                return new int[] {from(0, 4), from(0, 7), herb, from(0, 100)};
            case 11:
                return new int[] {from(0, 4), from(0, 7)};
            case 12: case 13:
                return new int[] {from(0, 4), from(0, 7), from(0, 4), from(0, 7)};
            case 14: case 15:
                return new int[] {from(0, 4)};
            case 16:
                return new int[] {from(0, 3)};
            case 17:
                return new int[] {herb, from(1, 9), from(0, 60)};
            case 18:
                return new int[] {};
            case 19: case 20: case 21:
                return new int[] {from(1, 4), from(0, 9)};
            case 22:
                return new int[] {from(1, 60), from(0, 9)};
            case 23: case 24: case 25: case 26:
                return new int[] {from(0, 4), from(0, 7), from(0, 7)};
            case 27:
                return new int[] {herb, from(0, 4)};
            case 28:
                return new int[] {order, from(0, 4)};
            case 29:
                return new int[] {from(0, 8)};
            case 30: case 31: case 32:
                return new int[] {from(0, 4), from(0, 7), from(0, 100), from(0, 9)};
            case 33: case 34:
                return new int[] {from(1, 60), from(0, 9), random.nextBoolean() ? 3 : from(2, 9)};
            case 35: case 36: case 37: case 38:
                return new int[] {from(1, 30), from(0, 9)};
            default:
                return new int[] {};
        }
    }

    private long ofModel(int which, int[] a) {
        switch (which) {
            case 0: case 1:
                return model.herb(a[0], a[1]);
            case 2: case 3: case 4: case 5: case 6: case 7: case 8: case 9: case 10:
                return model.hang(a[0], a[1], a[2], a[3]);
            case 11:
                return model.take(a[0], a[1]);
            case 12: case 13:
                return model.move(a[0], a[1], a[2], a[3]);
            case 14: case 15:
                return model.turn(a[0]);
            case 16:
                return model.setWindow(a[0]);
            case 17:
                return model.order(a[0], a[1], a[2]);
            case 18:
                return model.fill();
            case 19: case 20: case 21: case 22:
                return model.pass(a[0], a[1]);
            case 23: case 24: case 25: case 26:
                return model.told(a[0], a[1], a[2]);
            case 27:
                return model.about(a[0], a[1]);
            case 28:
                return model.asked(a[0], a[1]);
            case 29:
                return model.count(a[0]);
            case 30: case 31: case 32:
                return model.until(a[0], a[1], a[2], a[3]);
            case 33: case 34:
                return model.foresee(a[0], a[1], a[2]);
            case 35: case 36: case 37: case 38:
                return model.advise(a[0], a[1]);
            default:
                return Double.doubleToLongBits(model.mean());
        }
    }

    private long ofLoft(int which, int[] a) {
        call = which + " with " + java.util.Arrays.toString(a);
        switch (which) {
            case 0: case 1:
                return loft.herb(a[0], a[1]);
            case 2: case 3: case 4: case 5: case 6: case 7: case 8: case 9: case 10:
                return loft.hang(a[0], a[1], a[2], a[3]);
            case 11:
                return loft.take(a[0], a[1]);
            case 12: case 13:
                return loft.move(a[0], a[1], a[2], a[3]);
            case 14: case 15:
                return loft.turn(a[0]);
            case 16:
                return loft.setWindow(a[0]);
            case 17:
                return loft.order(a[0], a[1], a[2]);
            case 18:
                return loft.fill();
            case 19: case 20: case 21: case 22:
                return loft.pass(a[0], a[1]);
            case 23: case 24: case 25: case 26:
                return loft.told(a[0], a[1], a[2]);
            case 27:
                return loft.about(a[0], a[1]);
            case 28:
                return loft.asked(a[0], a[1]);
            case 29:
                return loft.count(a[0]);
            case 30: case 31: case 32:
                return loft.until(a[0], a[1], a[2], a[3]);
            case 33: case 34:
                return loft.foresee(a[0], a[1], a[2]);
            case 35: case 36: case 37: case 38:
                return loft.advise(a[0], a[1]);
            default:
                return Double.doubleToLongBits(loft.mean());
        }
    }
}
