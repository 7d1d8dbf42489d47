/** Promises 1, 7 to 24, 33, 37, 50 and 51: spirits, tubes, baths, the thumb and what a minute does to them. */
public final class TubesTest {
    private static final String FIRST = "gallery 20 4;spirit wine 10;spirit oil 6;bath ice 0;bath boil 100;"
            + "tube wine 20 2 300 5;tube oil 30 3 90 8;dip 0 ice;dip 1 boil;pass 40;mark 0;mark 1;dip 0 boil;pass 40;"
            + "mark 0;lift 0;leak 1;thumb 1 3;pass 2;";
    // The free height is 5 + (t + 300) / 10.
    private static final String PLAIN = "gallery 20 4;spirit s 10;bath c 0;bath h 100;tube s 20 2 100 5;";

    public static void main(String[] args) {
        promise1newObject();
        promises7to10();
        promises11and12spirits();
        promises13to20tubes();
        aFullGallery();
        promise21freeHeightAt();
        promise22greatestTemperature();
        promises15to17aMinute();
        promises16and23and24theThumb();
        promise18leaks();
        promise14spills();
        leakAndSpillInOneMinute();
        promise33sensitivity();
        promise37tallestTube();
        promises50and51();
        Checks.finish("TubesTest");
    }

    private static void promise1newObject() {
        Replayed x = new Replayed();
        Checks.is("first state", Checks.state(x), Checks.state(Checks.loaded(FIRST)));
        Checks.is("code", x.errorCode(), 0);
        Checks.is("offset", x.errorOffset(), -1);
        Checks.is("output", Checks.output(x), "");
        Checks.refuses("restore 0", x, Checks.STATE, () -> x.restore(0));
        Checks.refuses("restore 1", x, Checks.STATE, () -> x.restore(1));
        Checks.refuses("undo", x, Checks.STATE, () -> x.undo());
        Checks.refuses("empty buffer", x, Checks.ARGUMENT, () -> x.truncate(1));
        Checks.is("objects have nothing in common", x.setRoom(7), 20);
        Checks.is("room of another", new Replayed().roomDegrees(), 20);
    }

    private static void promises7to10() {
        Replayed x = Checks.loaded(PLAIN + "tube s 1 1 10 0;dip 0 h;dip 1 h;");
        Checks.sentence("Returns the minute number.");
        Checks.is("minute", x.minute(), 0);
        Checks.is("no thumb", x.thumbedTube(), -1);
        Checks.is("no minutes of the thumb", x.thumbLeft(), 0);
        x.pass(300);
        x.pass(7);
        Checks.is("minute", x.minute(), 307);
        Checks.sentence("Returns the degrees of the room.");
        Checks.is("room", x.roomDegrees(), 20);
        Checks.sentence("Returns its degrees.");
        Checks.is("cold bath", x.bathDegrees(0), 0);
        Checks.is("hot bath", x.bathDegrees(1), 100);
        Checks.sentence("Returns the number of tubes in it.");
        Checks.is("tubes in the cold bath", x.tubesIn(0), 0);
        Checks.is("tubes in the hot bath", x.tubesIn(1), 2);
        x.lift(0);
        Checks.is("tubes in the hot bath", x.tubesIn(1), 1);
        Checks.sentence("bath: number of a bath");
        for (int bath : new int[] {-1, 2, 4, Integer.MIN_VALUE, Integer.MAX_VALUE}) {
            Checks.refuses("bathDegrees " + bath, x, Checks.INDEX, () -> x.bathDegrees(bath));
            Checks.refuses("tubesIn " + bath, x, Checks.INDEX, () -> x.tubesIn(bath));
        }
    }

    private static void promises11and12spirits() {
        Replayed x = Checks.loaded("gallery 20 1;spirit a 40;spirit b 40;spirit c 1;bath h 150;"
                + "tube a 1 9 999 7;tube b 1 9 999 11;tube a 1 9 999 13;tube b 1 9 20 20;");
        Checks.sentence("Returns the sum of the fills of all tubes with this spirit.");
        Checks.is("spirit a", x.spiritInTubes(0), 20);
        Checks.is("spirit b", x.spiritInTubes(1), 31);
        Checks.is("spirit c", x.spiritInTubes(2), 0);
        Checks.is("lost", x.spiritLost(1), 0);
        // 40 * 500 / 9000 = 2 above the length
        Checks.is("pass", x.pass(1), 2);
        x.setLeaky(0, true);
        x.setLeaky(2, true);
        x.setLeaky(3, true);
        Checks.is("pass", x.pass(19), 6);
        Checks.is("lost a", x.spiritLost(0), 4);
        Checks.is("lost b", x.spiritLost(1), 4);
        Checks.is("lost c", x.spiritLost(2), 0);
        Checks.is("spirit a", x.spiritInTubes(0), 16);
        Checks.is("spirit b", x.spiritInTubes(1), 27);
        x.topUp(0, 100);
        Checks.is("adding is no negative loss", x.spiritLost(0), 4);
        Checks.is("spirit a", x.spiritInTubes(0), 116);
        Checks.sentence("spirit: number of a spirit");
        for (int spirit : new int[] {-1, 3, 5, Integer.MIN_VALUE, Integer.MAX_VALUE}) {
            Checks.refuses("spiritInTubes " + spirit, x, Checks.INDEX, () -> x.spiritInTubes(spirit));
            Checks.refuses("spiritLost " + spirit, x, Checks.INDEX, () -> x.spiritLost(spirit));
        }
    }

    private static void promises13to20tubes() {
        Replayed x = Checks.loaded("gallery -7 4;spirit a 10;spirit b 20;bath c 0;bath h 100;"
                + "tube b 20 2 300 5;tube a 1 1 10 999;leak 1;dip 1 h;");
        Checks.sentence("Returns its spirit.");
        Checks.is("spirit", x.spiritOf(0), 1);
        Checks.is("spirit", x.spiritOf(1), 0);
        Checks.sentence("Returns its fill.");
        Checks.is("fill", x.fillOf(0), 5);
        Checks.is("fill", x.fillOf(1), 999);
        Checks.sentence("Returns its temperature in tenths.");
        Checks.is("temperature", x.temperatureOf(0), -70);
        Checks.sentence("Returns the temperature of its surroundings in tenths.");
        Checks.is("surroundings", x.surroundingsOf(0), -70);
        Checks.is("surroundings", x.surroundingsOf(1), 1000);
        Checks.sentence("Returns whether it is settled.");
        Checks.is("settled", x.isSettled(0), true);
        Checks.is("settled", x.isSettled(1), false);
        Checks.sentence("Returns whether it is leaky.");
        Checks.is("leaky", x.isLeaky(0), false);
        Checks.is("leaky", x.isLeaky(1), true);
        Checks.sentence("Returns the bath in which it is, -1 if it is in the room.");
        Checks.is("bath", x.bathOf(0), -1);
        Checks.is("bath", x.bathOf(1), 1);
        Checks.sentence("Returns its height.");
        // 5 + 400 * 230 / 2000
        Checks.is("height", x.height(0), 51);
        Checks.is("height at the end of the tube", x.height(1), 10);
        Checks.sentence("tube: number of a tube");
        for (int tube : new int[] {-1, 2, 8, Integer.MIN_VALUE, Integer.MAX_VALUE}) {
            Checks.refuses("spiritOf", x, Checks.INDEX, () -> x.spiritOf(tube));
            Checks.refuses("fillOf", x, Checks.INDEX, () -> x.fillOf(tube));
            Checks.refuses("temperatureOf", x, Checks.INDEX, () -> x.temperatureOf(tube));
            Checks.refuses("surroundingsOf", x, Checks.INDEX, () -> x.surroundingsOf(tube));
            Checks.refuses("isSettled", x, Checks.INDEX, () -> x.isSettled(tube) ? 1 : 0);
            Checks.refuses("isLeaky", x, Checks.INDEX, () -> x.isLeaky(tube) ? 1 : 0);
            Checks.refuses("bathOf", x, Checks.INDEX, () -> x.bathOf(tube));
            Checks.refuses("height", x, Checks.INDEX, () -> x.height(tube));
        }
    }

    private static void aFullGallery() {
        StringBuilder text = new StringBuilder("gallery 20 4;spirit a 1;spirit b 2;spirit c 3;spirit d 4;spirit e 5;"
                + "bath f 1;bath g 2;bath h 3;bath i 4;");
        for (int i = 0; i < 8; i++) {
            text.append("tube e 1 9 100 ").append(i).append(";dip ").append(i).append(" i;");
        }
        Replayed x = Checks.loaded(text + "thumb 7 60;");
        Checks.is("no machine's exceptions", Checks.state(x).contains("Exception"), false);
        Checks.is("thumbed", x.thumbedTube(), 7);
        Checks.is("all in the last bath", x.tubesIn(3), 8);
        Checks.is("all of the last spirit", x.spiritInTubes(4), 28);
        Checks.is("tallest", x.tallestTube(), 7);
        Checks.is("mean", x.meanHeight(), 3.5);
        Checks.is("spread", x.spread(), 0);
        for (int i = 0; i < 8; i++) {
            int tube = i;
            Checks.is("fill", x.fillOf(tube), tube);
            Checks.is("spirit", x.spiritOf(tube), 4);
            Checks.refuses("dip into the same", x, Checks.STATE, () -> x.dip(tube, 3));
        }
    }

    private static void promise21freeHeightAt() {
        Checks.sentence("Returns its free height at this temperature.");
        Replayed x = Checks.loaded("gallery 20 4;spirit a 7;tube a 3 2 10 5;tube a 50 1 10 0;");
        // 5 + 21 * (t + 300) / 2000
        Checks.is("least", x.freeHeightAt(0, -200), 6);
        Checks.is("rounded down", x.freeHeightAt(0, 80), 5 + 3);
        Checks.is("one tenth more", x.freeHeightAt(0, 81), 5 + 4);
        Checks.is("greatest", x.freeHeightAt(0, 1500), 5 + 18);
        Checks.is("above the length", x.freeHeightAt(1, 1500), 630);
        Checks.sentence("tenths: a temperature in tenths, -200 to 1500");
        for (int tenths : new int[] {-201, 1501, Integer.MIN_VALUE, Integer.MAX_VALUE}) {
            Checks.refuses("freeHeightAt", x, Checks.ARGUMENT, () -> x.freeHeightAt(0, tenths));
            Checks.refuses("freeHeightAt of no tube", x, Checks.INDEX, () -> x.freeHeightAt(2, tenths));
        }
        Checks.refuses("freeHeightAt of no tube", x, Checks.INDEX, () -> x.freeHeightAt(-1, 0));
    }

    private static void promise22greatestTemperature() {
        Replayed x = Checks.loaded(PLAIN + "tube s 20 2 185 5;tube s 20 2 184 5;tube s 20 2 15 5;"
                + "tube s 20 2 14 5;tube s 1 1 10 999;");
        Checks.is("length 100", x.greatestTemperature(0), 659);
        Checks.is("just all", x.greatestTemperature(1), 1500);
        Checks.is("just not all", x.greatestTemperature(2), 1499);
        Checks.is("just the least ones", x.greatestTemperature(3), -191);
        Checks.is("just none", x.greatestTemperature(4), -1000);
        Checks.is("none", x.greatestTemperature(5), -1000);
        // Two more in each tenth: 200 at -200
        Checks.is("just the least", Checks.loaded("gallery 20 4;spirit s 40;tube s 50 1 201 0;").greatestTemperature(0),
                -200);
        Checks.is("just none", Checks.loaded("gallery 20 4;spirit s 40;tube s 50 1 199 0;").greatestTemperature(0),
                -1000);
        Checks.refuses("greatestTemperature", x, Checks.INDEX, () -> x.greatestTemperature(6));
        Checks.refuses("greatestTemperature", x, Checks.INDEX, () -> x.greatestTemperature(-1));
    }

    private static void promises15to17aMinute() {
        int[] warming = {400, 550, 662, 746, 809, 856, 892, 919, 939, 954, 965, 973, 979, 984, 988, 991, 993, 994, 995,
            996, 997, 1000, 1000};
        Replayed x = Checks.loaded("gallery 20 4;spirit s 1;bath h 100;tube s 1 9 999 5;dip 0 h;");
        for (int i = 0; i < warming.length; i++) {
            x.pass(1);
            Checks.is("temperature after " + (i + 1), x.temperatureOf(0), warming[i]);
            Checks.is("settled after " + (i + 1), x.isSettled(0), warming[i] == 1000);
        }
        int[] cooling = {150, 113, 85, 64, 48, 36, 27, 21, 16, 12, 9, 7, 6, 5, 4, 3, 0};
        Replayed y = Checks.loaded("gallery 20 4;spirit s 1;bath c 0;tube s 1 9 999 5;dip 0 c;");
        for (int i = 0; i < cooling.length; i++) {
            y.pass(1);
            Checks.is("temperature after " + (i + 1), y.temperatureOf(0), cooling[i]);
        }
        Replayed z = Checks.loaded("gallery 20 20;spirit s 1;bath c 18;bath h 22;tube s 1 9 999 5;dip 0 c;"
                + "tube s 1 9 999 5;dip 1 h;");
        z.pass(1);
        Checks.is("gap of the lag", z.temperatureOf(0), 199);
        Checks.is("gap of the lag", z.temperatureOf(1), 201);
        z.pass(1);
        Checks.is("gap below the lag", z.temperatureOf(0), 180);
        Checks.is("gap below the lag", z.temperatureOf(1), 220);
        Replayed u = Checks.loaded("gallery 150 1;spirit s 1;bath c -20;tube s 1 9 999 5;dip 0 c;pass 1;");
        Checks.is("lag 1", u.temperatureOf(0), -200);
    }

    private static void promises16and23and24theThumb() {
        Replayed x = Checks.loaded("gallery 20 4;spirit s 1;bath h 100;tube s 1 9 999 5;tube s 1 9 999 5;"
                + "dip 1 h;thumb 1 60;");
        Checks.is("thumbed", x.thumbedTube(), 1);
        Checks.is("left", x.thumbLeft(), 60);
        Checks.is("surroundings in a bath", x.surroundingsOf(1), 370);
        x.layThumb(0, 3);
        Checks.is("surroundings without it", x.surroundingsOf(1), 1000);
        Checks.is("surroundings in the room", x.surroundingsOf(0), 370);
        int[] tenths = {242, 274, 298, 274};
        for (int i = 0; i < tenths.length; i++) {
            x.pass(1);
            Checks.is("temperature", x.temperatureOf(0), tenths[i]);
            Checks.is("left", x.thumbLeft(), Math.max(0, 2 - i));
            Checks.is("thumbed", x.thumbedTube(), i < 2 ? 0 : -1);
        }
        x.layThumb(0, 60);
        x.pass(59);
        Checks.is("settled under the thumb", x.isSettled(0), true);
        Checks.is("settled at", x.temperatureOf(0), 370);
        x.pass(1);
        Checks.is("not settled without it", x.isSettled(0), false);
        x.layThumb(1, 5);
        x.lift(1);
        Checks.is("it stays on a lifted tube", x.thumbedTube(), 1);
        Checks.is("lifted surroundings", x.surroundingsOf(1), 370);
    }

    private static void promise18leaks() {
        Replayed x = Checks.loaded("gallery 20 4;spirit s 1;tube s 1 9 999 2;leak 0;tube s 1 9 999 2;");
        Checks.is("9 minutes", x.pass(9), 0);
        Checks.is("minute 10", x.pass(1), 1);
        Checks.is("fill", x.fillOf(0), 1);
        Checks.is("no leak", x.fillOf(1), 2);
        Checks.is("minute 20", x.pass(10), 1);
        Checks.is("fill", x.fillOf(0), 0);
        Checks.is("nothing left", x.pass(300), 0);
        Checks.is("fill", x.fillOf(0), 0);
    }

    private static void promise14spills() {
        Replayed x = Checks.loaded("gallery 20 1;spirit s 10;bath h 100;tube s 20 2 100 5;"
                + "tube s 20 2 100 45;dip 0 h;dip 1 h;");
        // 135 and 175 at 100 degrees: more than the fill of the first
        Checks.is("spilled", x.pass(1), 5 + 45);
        Checks.is("fill", x.fillOf(0), 0);
        Checks.is("height", x.height(0), 100);
        Checks.is("nothing left", x.pass(1), 0);
        Replayed y = Checks.loaded("gallery 20 1;spirit s 10;tube s 20 2 100 50;tube s 20 2 100 51;"
                + "tube s 20 2 100 49;");
        Checks.is("just full", y.pass(1), 1);
        Checks.is("fill", y.fillOf(1), 50);
        Checks.is("fill", y.fillOf(0), 50);
        y.topUp(2, 10);
        Checks.is("adding spills in the next minute", y.fillOf(2), 59);
        Checks.is("height is cut", y.height(2), 100);
        Checks.is("spilled", y.pass(1), 9);
        Checks.is("lost", y.spiritLost(0), 10);
    }

    private static void leakAndSpillInOneMinute() {
        Replayed x = Checks.loaded("gallery 20 1;spirit s 10;tube s 20 2 100 49;tube s 20 2 10 0;leak 0;"
                + "leak 1;pass 9;fill 0 4;fill 1 1;");
        // The leak comes first: 53 - 1 + 50 - 100 = 2 are spilled, and nothing is left to be spilled in the other.
        Checks.is("both lose", x.lossAfter(1), 3 + 1);
        Checks.is("the first spills", x.minutesUntilSpill(0), 1);
        Checks.is("the other leaks only", x.minutesUntilSpill(1), -1);
        x.pass(1);
        Checks.is("fill", x.fillOf(0), 50);
        Checks.is("fill", x.fillOf(1), 0);
    }

    private static void promise33sensitivity() {
        Replayed x = Checks.loaded("gallery 150 4;spirit s 40;tube s 50 1 10 5;tube s 1 9 10 5;");
        Checks.is("beyond the length and 150 degrees", x.sensitivity(0), 20);
        // 40 * 1800 / 9000 = 8 exactly, 40 * 1810 / 9000 = 8
        Checks.is("none", x.sensitivity(1), 0);
        Replayed y = Checks.loaded("gallery 20 4;spirit s 7;tube s 3 2 10 5;room 8;pass 60;");
        // 21 * 380 / 2000 = 3, 21 * 390 / 2000 = 4
        Checks.is("one", y.sensitivity(0), 1);
        Checks.refuses("sensitivity", y, Checks.INDEX, () -> y.sensitivity(1));
        Checks.refuses("sensitivity", y, Checks.INDEX, () -> y.sensitivity(-1));
    }

    private static void promise37tallestTube() {
        Replayed x = Checks.loaded("gallery 20 4;spirit s 1;");
        Checks.is("none", x.tallestTube(), -1);
        Replayed y = Checks.loaded("gallery 20 4;spirit s 1;tube s 1 9 10 0;tube s 1 9 999 7;"
                + "tube s 1 9 50 7;tube s 1 9 10 5;");
        Checks.is("the first of two", y.tallestTube(), 1);
        y.topUp(3, 900);
        Checks.is("the height counts, not the fill", y.tallestTube(), 3);
        y.topUp(2, 5);
        Checks.is("tallest", y.tallestTube(), 2);
        Checks.is("all of height 0", Checks.loaded("gallery 20 4;spirit s 1;tube s 1 9 10 0;").tallestTube(), 0);
    }

    private static void promises50and51() {
        Replayed x = Checks.loaded("gallery 20 4;spirit s 1;");
        Checks.is("share of none", x.settledShare(), 0.0f);
        Checks.is("mean of none", x.meanHeight(), 0.0);
        Replayed y = Checks.loaded("gallery 20 4;spirit s 1;bath h 50;tube s 1 9 999 1;tube s 1 9 999 2;"
                + "tube s 1 9 10 500;");
        Checks.is("all", y.settledShare(), 1.0f);
        Checks.is("mean", y.meanHeight(), 13.0 / 3.0);
        y.dip(0, 0);
        Checks.is("two of three", y.settledShare(), 2.0f / 3.0f);
        y.layThumb(1, 1);
        Checks.is("one of three", y.settledShare(), 1.0f / 3.0f);
        y.setRoom(21);
        Checks.is("none of three", y.settledShare(), 0.0f);
    }
}
