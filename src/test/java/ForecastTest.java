/** Promises 39 to 43 and 46: what will be if only minutes pass. */
public final class ForecastTest {
    // The free height is 5 + (t + 300) / 10.
    private static final String WARMING = "gallery 20 4;spirit s 10;bath h 100;tube s 20 2 110 5;dip 0 h;";

    public static void main(String[] args) {
        promises39and40after();
        promise41minutesUntilSettled();
        promise42minutesUntilSpill();
        promise43minutesUntilHeight();
        promise46lossAfter();
        theThumbIsForeseen();
        Checks.finish("ForecastTest");
    }

    private static void promises39and40after() {
        Replayed x = Checks.loaded(WARMING + "tube s 20 2 300 5;");
        int[] tenths = {200, 400, 550, 662, 746};
        Checks.sentence("Returns its temperature in tenths after so many minutes.");
        for (int i = 0; i < tenths.length; i++) {
            Checks.is("temperature after " + i, x.temperatureAfter(0, i), tenths[i]);
        }
        Checks.sentence("Returns its height after so many minutes.");
        for (int i = 0; i < tenths.length; i++) {
            Checks.is("height after " + i, x.heightAfter(0, i), Math.min(110, 5 + (tenths[i] + 300) / 10));
        }
        Checks.is("temperature after 300", x.temperatureAfter(0, 300), 1000);
        Checks.is("height after 300", x.heightAfter(0, 300), 110);
        Checks.is("the other one", x.temperatureAfter(1, 300), 200);
        Checks.is("the other one", x.heightAfter(1, 300), 55);
        Checks.sentence("minutes: 0 to 300");
        for (int minutes : new int[] {-1, 301, Integer.MIN_VALUE, Integer.MAX_VALUE}) {
            Checks.refuses("heightAfter", x, Checks.ARGUMENT, () -> x.heightAfter(0, minutes));
            Checks.refuses("temperatureAfter", x, Checks.ARGUMENT, () -> x.temperatureAfter(0, minutes));
            Checks.refuses("heightAfter of no tube", x, Checks.INDEX, () -> x.heightAfter(2, minutes));
            Checks.refuses("temperatureAfter of no tube", x, Checks.INDEX, () -> x.temperatureAfter(2, minutes));
        }
        Checks.refuses("heightAfter of no tube", x, Checks.INDEX, () -> x.heightAfter(-1, 0));
        Checks.refuses("temperatureAfter of no tube", x, Checks.INDEX, () -> x.temperatureAfter(-1, 0));
        String before = Checks.state(x);
        x.temperatureAfter(0, 300);
        Checks.is("questions change nothing", Checks.state(x), before);
        Replayed y = Checks.loaded("gallery 20 4;spirit s 1;tube s 1 9 999 50;leak 0;pass 5;");
        Checks.is("leaks lower the height", y.heightAfter(0, 4), 50);
        Checks.is("leaks lower the height", y.heightAfter(0, 5), 49);
        Checks.is("leaks lower the height", y.heightAfter(0, 300), 20);
    }

    private static void promise41minutesUntilSettled() {
        Replayed x = Checks.loaded(WARMING + "tube s 20 2 300 5;");
        Checks.is("from 20 to 100", x.minutesUntilSettled(0), 22);
        Checks.is("settled already", x.minutesUntilSettled(1), 0);
        x.pass(21);
        Checks.is("one left", x.minutesUntilSettled(0), 1);
        x.layThumb(1, 60);
        Checks.is("under the thumb", x.minutesUntilSettled(1), 17);
        x.layThumb(1, 3);
        // 242, 274, 298 and back to 200: 274, 256, 242, 232, 224, 218, 214, 211, 209, 207, 206, 205, 204, 203, 200
        Checks.is("after the thumb", x.minutesUntilSettled(1), 3 + 15);
        // The most that a lag of 20 takes: it still is less than 300.
        Replayed slow = Checks.loaded("gallery -20 20;spirit s 1;bath h 150;tube s 1 1 10 0;dip 0 h;");
        Checks.is("slowest", slow.temperatureAfter(0, slow.minutesUntilSettled(0)), 1500);
        Checks.refuses("minutesUntilSettled", x, Checks.INDEX, () -> x.minutesUntilSettled(2));
        Checks.refuses("minutesUntilSettled", x, Checks.INDEX, () -> x.minutesUntilSettled(-1));
    }

    private static void promise42minutesUntilSpill() {
        Replayed x = Checks.loaded(WARMING + "tube s 20 2 300 5;tube s 20 2 55 5;tube s 20 2 54 5;"
                + "tube s 20 2 10 0;");
        // 5 + (t + 300) / 10 > 110 from 760 on: 809 after 5 minutes
        Checks.is("spills", x.minutesUntilSpill(0), 5);
        Checks.is("never", x.minutesUntilSpill(1), -1);
        Checks.is("just full", x.minutesUntilSpill(2), -1);
        Checks.is("at once", x.minutesUntilSpill(3), 1);
        Checks.is("nothing to spill", x.minutesUntilSpill(4), -1);
        x.pass(5);
        Checks.is("all 5 are spilled", x.minutesUntilSpill(0), -1);
        x.topUp(0, 9);
        Checks.is("it goes on", x.minutesUntilSpill(0), 1);
        Checks.is("done", x.minutesUntilSpill(3), -1);
        Checks.refuses("minutesUntilSpill", x, Checks.INDEX, () -> x.minutesUntilSpill(5));
        Checks.refuses("minutesUntilSpill", x, Checks.INDEX, () -> x.minutesUntilSpill(-1));
        // A lag of 20 warms so slowly that the last tenths come late: found by minutes that really pass.
        Replayed late = Checks.loaded("gallery 20 20;spirit s 40;bath h 150;tube s 50 9 444 45;dip 0 h;");
        int due = late.minutesUntilSpill(0);
        Checks.is("late is not never", due > 50, true);
        Checks.is("no loss before", late.pass(due - 1), 0);
        Checks.is("a loss then", late.pass(1) > 0, true);
    }

    private static void promise43minutesUntilHeight() {
        Replayed x = Checks.loaded(WARMING);
        Checks.is("height 0", x.minutesUntilHeight(0, 0), 0);
        Checks.is("its height", x.minutesUntilHeight(0, 55), 0);
        Checks.is("more than its height", x.minutesUntilHeight(0, 56), 1);
        Checks.is("75 after one minute", x.minutesUntilHeight(0, 75), 1);
        Checks.is("more than 75", x.minutesUntilHeight(0, 76), 2);
        Checks.is("its length", x.minutesUntilHeight(0, 110), 5);
        Checks.is("more than its length", x.minutesUntilHeight(0, 111), -1);
        Checks.is("never", x.minutesUntilHeight(0, 999), -1);
        Checks.sentence("height: 0 to 999");
        for (int height : new int[] {-1, 1000, Integer.MIN_VALUE, Integer.MAX_VALUE}) {
            Checks.refuses("minutesUntilHeight", x, Checks.ARGUMENT, () -> x.minutesUntilHeight(0, height));
            Checks.refuses("minutesUntilHeight of no tube", x, Checks.INDEX, () -> x.minutesUntilHeight(1, height));
        }
        Checks.refuses("minutesUntilHeight of no tube", x, Checks.INDEX, () -> x.minutesUntilHeight(-1, 0));
    }

    private static void promise46lossAfter() {
        Replayed x = Checks.loaded("gallery 20 1;spirit s 10;spirit t 1;tube s 20 2 54 5;tube s 20 2 53 5;"
                + "tube t 1 9 999 3;leak 2;pass 0;");
        Checks.is("none", x.lossAfter(0), 0);
        Checks.is("spills", x.lossAfter(1), 1 + 2);
        Checks.is("spills", x.lossAfter(9), 3);
        Checks.is("a leak", x.lossAfter(10), 4);
        Checks.is("until it is empty", x.lossAfter(30), 6);
        Checks.is("until it is empty", x.lossAfter(300), 6);
        Checks.is("nothing has been lost", x.spiritLost(0) + x.spiritLost(1), 0);
        Checks.is("pass tells the same", x.pass(10), 4);
        Checks.is("losses before do not count", x.lossAfter(0), 0);
        Checks.is("losses before do not count", x.lossAfter(10), 1);
        Checks.sentence("minutes: 0 to 300");
        for (int minutes : new int[] {-1, 301, Integer.MIN_VALUE, Integer.MAX_VALUE}) {
            Checks.refuses("lossAfter", x, Checks.ARGUMENT, () -> x.lossAfter(minutes));
        }
        Checks.is("no tubes", Checks.loaded("gallery 20 4;").lossAfter(300), 0);
    }

    private static void theThumbIsForeseen() {
        Replayed x = Checks.loaded("gallery 20 4;spirit s 10;tube s 20 2 300 5;thumb 0 3;");
        int[] tenths = {200, 242, 274, 298, 274, 256};
        for (int i = 0; i < tenths.length; i++) {
            Checks.is("temperature after " + i, x.temperatureAfter(0, i), tenths[i]);
        }
        Checks.is("the thumb is still there", x.thumbLeft(), 3);
    }
}
