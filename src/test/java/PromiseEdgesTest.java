/** The "Returns" sentences of the promises that name an edge: none, one, the most, several equal ones. */
public final class PromiseEdgesTest {
    // The spirit does not rise within the bore of 9: a height is a fill, and a lag of 1 settles in a minute.
    private static final String EVEN = "gallery 20 1;spirit s 1;spirit t 1;bath c 0;bath h 100;bath m 50;";
    private static final String TUBE = "tube s 1 9 999 5;";
    // 0 tenths at 5 and 1000 at 15, in h
    private static final String SCALED = EVEN + TUBE + "dip 0 c;pass 1;mark 0;fill 0 10;dip 0 h;pass 1;mark 0;";
    // The slowest of all: found by asking for every lag, temperature, bath and thumb.
    private static final String SLOWEST = "gallery -20 20;spirit s 40;bath h 149;tube s 50 4 890 1;tube s 50 4 999 0;"
            + "dip 0 h;dip 1 h;";
    private static final String MOST_SIGNS = "gallery 20 1;spirit wxyz 1;bath c 150;bath h -20;tube wxyz 1 9 999 100;"
            + "dip 0 h;pass 1;mark 0;fill 0 1;dip 0 c;pass 1;mark 0;fill 0 898;thumb 0 9;";

    public static void main(String[] args) {
        promise1newObject();
        promise2newLength();
        promise4tubesOfAText();
        promise4emptiesTheBuffer();
        promise4replacesTheState();
        promise5errorCode();
        promise6errorOffset();
        promise10tubesIn();
        promise11spiritInTubes();
        promise12spiritLost();
        promise19bathOf();
        promise22greatestTemperature();
        promise22none();
        promise23thumbedTube();
        promise24thumbLeft();
        promise25pointCount();
        promise32fitError();
        promise33sensitivity();
        promise34dipRefusal();
        promise35markRefusal();
        promise36bestTube();
        promise36noScale();
        promise37tallestTube();
        promise37noTubes();
        promise38spread();
        promise38noScale();
        promise39and40afterNoneAndMost();
        promise41minutesUntilSettled();
        promise42minutesUntilSpill();
        promise43minutesUntilHeight();
        promise44disagreement();
        promise45worstFit();
        promise45noScale();
        promise46lossAfter();
        promise47bathsToMark();
        promise48and49zero();
        promise50settledShare();
        promise51meanHeight();
        promise52dip();
        promise53lift();
        promise55erasePoint();
        promise56layThumb();
        promise57topUp();
        promise58setRoom();
        promise59setLeaky();
        promise60pass();
        promise61and62minutes();
        promise63changesLeft();
        promise64printTube();
        promise64lengthOfTheText();
        promise65outputByte();
        Checks.finish("PromiseEdgesTest");
    }

    private static String times(int count, String text) {
        return text.repeat(count);
    }

    private static Replayed marked(Replayed x, int tube, int bath, int more) {
        x.topUp(tube, more);
        x.dip(tube, bath);
        x.pass(1);
        x.mark(tube);
        return x;
    }

    private static void promise1newObject() {
        Checks.sentence("Creates the state described above, with an empty input buffer, no error, an empty output"
                + " text and no saved states.");
        Replayed x = new Replayed();
        Checks.throwing("an empty input buffer", Checks.ARGUMENT, () -> x.truncate(1));
        Checks.is("an empty input buffer", x.append(0, 0, 0, 0, 0), 20);
        Checks.is("no error", x.errorCode(), 0);
        Checks.is("no error", x.errorOffset(), -1);
        Checks.throwing("an empty output text", Checks.ELEMENT, () -> x.outputByte(0));
        Checks.throwing("no saved states", Checks.STATE, () -> x.restore(0));
        Checks.throwing("no saved states", Checks.STATE, () -> x.restore(1));
        Checks.throwing("no changes", Checks.STATE, () -> x.undo());
    }

    private static void promise2newLength() {
        Checks.sentence("Returns the new length of the buffer.");
        Replayed x = new Replayed();
        for (int i = 1; i <= 30; i++) {
            Checks.is("from a length of " + 20 * (i - 1), x.append(i, -i, 0, -1, 1), 20 * i);
        }
        Checks.is("truncate", x.truncate(580), 580);
        Checks.is("just full", x.append(0, 0, 0, 0, 0), 600);
        Checks.is("truncate", x.truncate(0), 0);
        Checks.is("from none", x.append(0, 0, 0, 0, 0), 20);
        Checks.is("truncate", x.truncate(1), 1);
        Checks.is("from one", x.append(0, 0, 0, 0, 0), 21);
    }

    private static void promise4emptiesTheBuffer() {
        Checks.sentence("Parses the input buffer as a setup text and empties the buffer.");
        for (String text : new String[] {"gallery 20 1;", "gallery 20 1", "duke", times(600, " "), ""}) {
            Replayed x = new Replayed();
            Checks.load(x, text);
            Checks.throwing("nothing is left", Checks.ARGUMENT, () -> x.truncate(1));
            Checks.is("nothing is left", x.load(), -7);
            Checks.is("an empty text", x.errorOffset(), 0);
            Checks.is("nothing is left", x.append(0, 0, 0, 0, 0), 20);
        }
    }

    private static void promise4tubesOfAText() {
        Checks.sentence("Returns the number of tubes, or PARSE_ERROR if the text has an error.");
        for (int count = 0; count <= 8; count++) {
            Checks.is("tubes", Checks.load(new Replayed(), EVEN + times(count, TUBE)), count);
        }
        Checks.is("nine", Checks.load(new Replayed(), EVEN + times(9, TUBE)), -7);
    }

    private static void promise4replacesTheState() {
        Checks.sentence("If the text has no error, the state described by it replaces the current one.");
        Replayed x = Checks.loaded(SCALED + "leak 0;thumb 0 60;pass 7;");
        String before = Checks.state(x);
        Checks.load(x, EVEN + TUBE + "room 151;");
        Checks.is("an error", Checks.state(x), before);
        Checks.load(x, "gallery 20 1;");
        Checks.is("nothing is left", Checks.state(x), Checks.state(Checks.loaded("gallery 20 1;")));
        Checks.load(x, EVEN + TUBE);
        Checks.is("nothing is left", Checks.state(x), Checks.state(Checks.loaded(EVEN + TUBE)));
    }

    private static void promise5errorCode() {
        Checks.sentence("Returns the error code of the latest call of load, 0 if it succeeded or if there was none.");
        Replayed x = new Replayed();
        Checks.is("none", x.errorCode(), 0);
        String[] texts = {"", "gallery 20 1;room 151;", "gallery 20 1;bath a 1;bath a 1;",
            "gallery 20 1;tube a 1 1 10 0;", "gallery 20 1;bath a 1;bath b 1;bath c 1;bath d 1;bath e 1;",
            EVEN + TUBE + "lift 0;"};
        for (int code = 1; code <= 6; code++) {
            Checks.load(x, texts[code - 1]);
            Checks.is("an error", x.errorCode(), code);
        }
        x.setRoom(7);
        x.undo();
        Checks.is("it stays until the next load", x.errorCode(), 6);
        Checks.load(x, "gallery 20 1;");
        Checks.is("success", x.errorCode(), 0);
    }

    private static void promise6errorOffset() {
        Checks.sentence("Returns the error offset of the latest call of load, -1 if it succeeded or if there was"
                + " none.");
        Replayed x = new Replayed();
        Checks.is("none", x.errorOffset(), -1);
        Checks.load(x, "gallery 20 1;room 151;");
        Checks.is("an error", x.errorOffset(), 18);
        x.load();
        Checks.is("an error at 0", x.errorOffset(), 0);
        Checks.load(x, times(600, "\n"));
        Checks.is("an error at 600", x.errorOffset(), 600);
        x.setRoom(7);
        x.undo();
        Checks.is("it stays until the next load", x.errorOffset(), 600);
        Checks.load(x, "gallery 20 1;");
        Checks.is("success", x.errorOffset(), -1);
    }

    private static void promise10tubesIn() {
        Checks.sentence("Returns the number of tubes in it.");
        Replayed x = Checks.loaded(EVEN + times(8, TUBE));
        for (int tube = 0; tube < 8; tube++) {
            Checks.is("tubes", x.tubesIn(2), tube);
            x.dip(tube, 2);
        }
        Checks.is("all", x.tubesIn(2), 8);
        Checks.is("none", x.tubesIn(0), 0);
        Checks.is("no tubes", Checks.loaded(EVEN).tubesIn(0), 0);
    }

    private static void promise11spiritInTubes() {
        Checks.sentence("Returns the sum of the fills of all tubes with this spirit.");
        Checks.is("the most", Checks.loaded(EVEN + times(8, "tube s 1 9 999 999;")).spiritInTubes(0), 8 * 999);
        Checks.is("no tube has it", Checks.loaded(EVEN + times(8, TUBE)).spiritInTubes(1), 0);
        Checks.is("no tubes", Checks.loaded(EVEN).spiritInTubes(1), 0);
        Checks.is("the last tube", Checks.loaded(EVEN + times(7, TUBE) + "tube t 1 9 999 7;").spiritInTubes(1), 7);
        Checks.is("empty ones", Checks.loaded(EVEN + times(8, "tube s 1 9 10 0;")).spiritInTubes(0), 0);
    }

    private static void promise12spiritLost() {
        Checks.sentence("Returns what the tubes with this spirit have lost by leaks and spills, including by the"
                + " text.");
        String text = EVEN + "tube s 1 9 10 14;tube t 1 9 10 17;tube s 1 9 10 5;leak 2;";
        Replayed x = Checks.loaded(text);
        Checks.is("nothing yet", x.spiritLost(0), 0);
        x.pass(10);
        Checks.is("spilled and leaked", x.spiritLost(0), 5);
        Checks.is("the other spirit", x.spiritLost(1), 7);
        Replayed y = Checks.loaded(text + "pass 10;");
        Checks.is("in the text", y.spiritLost(0), 5);
        y.pass(10);
        Checks.is("in the text and later", y.spiritLost(0), 6);
        Checks.is("no tubes", Checks.loaded(EVEN).spiritLost(0), 0);
    }

    private static void promise19bathOf() {
        Checks.sentence("Returns the bath in which it is, -1 if it is in the room.");
        Replayed x = Checks.loaded(EVEN + TUBE + TUBE);
        Checks.is("room", x.bathOf(1), -1);
        x.dip(1, 0);
        Checks.is("the first bath", x.bathOf(1), 0);
        x.dip(1, 2);
        Checks.is("the last bath", x.bathOf(1), 2);
        Checks.is("the other one", x.bathOf(0), -1);
    }

    private static void promise22greatestTemperature() {
        Checks.sentence("Returns the greatest temperature in tenths, -200 to 1500, at which its free height is not"
                + " greater than its length");
        // The free height is the fill + (t + 300) / 10.
        String text = "gallery 20 1;spirit s 10;tube s 20 2 ";
        Checks.is("more than all", Checks.loaded(text + "999 0;").greatestTemperature(0), 1500);
        Checks.is("just all", Checks.loaded(text + "180 0;").greatestTemperature(0), 1500);
        Checks.is("all but the last", Checks.loaded(text + "179 0;").greatestTemperature(0), 1499);
        Checks.is("the first ten", Checks.loaded(text + "30 20;").greatestTemperature(0), -191);
        Checks.is("none", Checks.loaded(text + "29 20;").greatestTemperature(0), -1000);
        // The free height is 2 * (t + 300).
        String steep = "gallery 20 1;spirit s 40;tube s 50 1 ";
        Checks.is("the first two", Checks.loaded(steep + "203 0;").greatestTemperature(0), -199);
        Checks.is("the first", Checks.loaded(steep + "201 0;").greatestTemperature(0), -200);
        Checks.is("just the first", Checks.loaded(steep + "200 0;").greatestTemperature(0), -200);
        Checks.is("just none", Checks.loaded(steep + "199 0;").greatestTemperature(0), -1000);
    }

    private static void promise22none() {
        Checks.sentence("-1000 if there is none.");
        Replayed x = Checks.loaded(EVEN + "tube s 1 9 10 11;tube s 1 9 10 10;");
        Checks.is("the fill alone is greater", x.greatestTemperature(0), -1000);
        Checks.is("the fill alone is as great", x.greatestTemperature(1), 1500);
    }

    private static void promise23thumbedTube() {
        Checks.sentence("Returns the tube on which the thumb lies, -1 if it lies on none.");
        Replayed x = Checks.loaded(EVEN + times(8, TUBE));
        Checks.is("none", x.thumbedTube(), -1);
        x.layThumb(0, 1);
        Checks.is("the first", x.thumbedTube(), 0);
        x.layThumb(7, 60);
        Checks.is("the last", x.thumbedTube(), 7);
        x.pass(60);
        Checks.is("none", x.thumbedTube(), -1);
    }

    private static void promise24thumbLeft() {
        Checks.sentence("Returns the number of minutes that are left of the thumb, 0 if it lies on no tube.");
        Replayed x = Checks.loaded(EVEN + times(8, TUBE));
        Checks.is("on none", x.thumbLeft(), 0);
        x.layThumb(7, 60);
        Checks.is("the most", x.thumbLeft(), 60);
        x.pass(59);
        Checks.is("the last", x.thumbLeft(), 1);
        x.pass(1);
        Checks.is("on none", x.thumbLeft(), 0);
        x.layThumb(0, 1);
        x.pass(300);
        Checks.is("on none for long", x.thumbLeft(), 0);
    }

    private static void promise25pointCount() {
        Checks.sentence("Returns the number of its points.");
        Replayed x = Checks.loaded("gallery 20 1;spirit s 1;bath k 0;bath l 30;bath m 60;bath n 90;" + TUBE);
        for (int bath = 0; bath < 4; bath++) {
            Checks.is("points", x.pointCount(0), bath);
            marked(x, 0, bath, 1);
        }
        for (int left = 4; left > 0; left--) {
            Checks.is("points", x.pointCount(0), left);
            x.erasePoint(0, 0);
        }
        Checks.is("points", x.pointCount(0), 0);
    }

    private static void promise32fitError() {
        Checks.sentence("Returns the greatest difference, without sign, between the tenths of a point and what the"
                + " scale tells for its height, over all its points.");
        Checks.is("two points", Checks.loaded(SCALED).fitError(0), 0);
        // 500 tenths are due at 16, where the scale tells 1100
        Checks.is("the scale tells more", Checks.loaded(SCALED + "fill 0 1;dip 0 m;pass 1;mark 0;").fitError(0), 600);
        // 500 tenths are due at 3, where the scale tells -200
        Checks.is("the scale tells less", Checks.loaded(SCALED + "leak 0;dip 0 m;pass 118;mark 0;").fitError(0), 700);
        Checks.is("a third point that fits", Checks.loaded(SCALED + "leak 0;dip 0 m;pass 48;mark 0;").pointHeight(0, 2),
                10);
        Checks.is("a third point that fits", Checks.loaded(SCALED + "leak 0;dip 0 m;pass 48;mark 0;").fitError(0), 0);
    }

    private static void promise33sensitivity() {
        Checks.sentence("Returns its free height at a temperature of 1 degree more minus that at its temperature.");
        Checks.is("the most, at 150 degrees",
                Checks.loaded("gallery 150 1;spirit s 40;tube s 50 1 10 999;").sensitivity(0), 20);
        Checks.is("the most, at -20 degrees",
                Checks.loaded("gallery -20 1;spirit s 40;tube s 50 1 10 0;").sensitivity(0), 20);
        Checks.is("none", Checks.loaded(EVEN + TUBE).sensitivity(0), 0);
        // (t + 300) * 3 / 100: 9.0 at 0, 9.3 at 1 degree, 9.9 at 3, 10.2 at 4
        String text = ";spirit s 3;tube s 10 1 10 0;";
        Checks.is("not yet", Checks.loaded("gallery 0 1" + text).sensitivity(0), 0);
        Checks.is("the next whole one", Checks.loaded("gallery 3 1" + text).sensitivity(0), 1);
    }

    private static void promise34dipRefusal() {
        Checks.sentence("Returns 0 if the tube could be dipped into the bath; otherwise the first reason that"
                + " applies.");
        Replayed x = Checks.loaded(EVEN + times(8, TUBE));
        for (int tube = 0; tube < 8; tube++) {
            for (int bath = 0; bath < 3; bath++) {
                Checks.is("it could", x.dipRefusal(tube, bath), 0);
                x.dip(tube, bath);
                Checks.is("it is in it", x.dipRefusal(tube, bath), 1);
            }
        }
        x.layThumb(7, 1);
        Checks.is("the thumb lies on it", x.dipRefusal(7, 0), 2);
        Checks.is("it lies on another one", x.dipRefusal(6, 0), 0);
    }

    private static void promise35markRefusal() {
        Checks.sentence("Returns 0 if a point could be marked; otherwise the first reason that applies.");
        Replayed x = Checks.loaded(EVEN + TUBE);
        Checks.is("1", x.markRefusal(0), 1);
        x.dip(0, 0);
        Checks.is("2", x.markRefusal(0), 2);
        x.pass(1);
        Checks.is("0", x.markRefusal(0), 0);
        x.mark(0);
        Checks.is("3", x.markRefusal(0), 3);
        x.dip(0, 1);
        Checks.is("2", x.markRefusal(0), 2);
        x.pass(1);
        Checks.is("4", x.markRefusal(0), 4);
        x.topUp(0, 1);
        Checks.is("0", x.markRefusal(0), 0);
    }

    private static void promise36bestTube() {
        Checks.sentence("Returns the tube with a scale whose reading differs least from its temperature, among"
                + " several the one with the smallest number");
        Replayed x = Checks.loaded(EVEN + times(4, TUBE));
        for (int tube = 1; tube < 4; tube++) {
            marked(x, tube, 0, 1);
            marked(x, tube, 1, 10);
        }
        Checks.is("several", x.bestTube(), 1);
        x.topUp(1, 1);
        Checks.is("not the first", x.bestTube(), 2);
        x.topUp(2, 2);
        x.topUp(3, 3);
        Checks.is("the first again", x.bestTube(), 1);
        Checks.is("one step", x.readingError(1), 100);
        // One step below instead of three above
        x.undo();
        x.setLeaky(3, true);
        x.pass(10 - x.minute() % 10);
        Checks.is("below its temperature", x.readingError(3), -100);
        Checks.is("the difference has no sign", x.bestTube(), 1);
        x.topUp(1, 1);
        Checks.is("the least difference", x.bestTube(), 3);
    }

    private static void promise36noScale() {
        Checks.sentence("-1 if no tube has a scale.");
        Checks.is("no tubes", Checks.loaded(EVEN).bestTube(), -1);
        Checks.is("no points", Checks.loaded(EVEN + TUBE).bestTube(), -1);
        Checks.is("one point", Checks.loaded(EVEN + TUBE + "dip 0 c;pass 1;mark 0;").bestTube(), -1);
        Checks.is("two points, as far off as can be", Checks.loaded(SCALED + "fill 0 900;").bestTube(), 0);
    }

    private static void promise37tallestTube() {
        Checks.sentence("Returns the tube with the greatest height, among several the one with the smallest number");
        Replayed x = Checks.loaded(EVEN + times(8, "tube s 1 9 100 0;"));
        Checks.is("all have 0", x.tallestTube(), 0);
        x.topUp(7, 1);
        Checks.is("the last", x.tallestTube(), 7);
        x.topUp(3, 1);
        Checks.is("several", x.tallestTube(), 3);
        x.topUp(5, 100);
        x.topUp(6, 900);
        Checks.is("heights are cut at the length", x.tallestTube(), 5);
    }

    private static void promise37noTubes() {
        Checks.sentence("-1 if there are no tubes.");
        Checks.is("none", Checks.loaded(EVEN).tallestTube(), -1);
        Checks.is("one", Checks.loaded(EVEN + "tube s 1 9 10 0;").tallestTube(), 0);
    }

    private static void promise38spread() {
        Checks.sentence("Returns the greatest reading of all tubes with a scale minus the smallest one");
        Replayed x = Checks.loaded(EVEN + times(4, TUBE));
        for (int tube = 0; tube < 3; tube++) {
            marked(x, tube, 0, 1);
            marked(x, tube, 1, 10);
            Checks.is("equal ones", x.spread(), 0);
        }
        x.topUp(1, 3);
        Checks.is("the middle one is greatest", x.spread(), 300);
        x.topUp(0, 1);
        x.topUp(2, 2);
        Checks.is("the first is smallest", x.spread(), 200);
        x.topUp(0, 10);
        Checks.is("the last is smallest", x.spread(), 900);
        // From 1000 and more to less than 0: 16, 17 and 18 lose 30
        Replayed y = Checks.loaded(EVEN + times(2, "tube s 1 9 999 50;"));
        for (int tube = 0; tube < 2; tube++) {
            marked(y, tube, 0, 1);
            marked(y, tube, 1, 10);
            y.setLeaky(tube, true);
        }
        y.pass(300);
        y.topUp(1, 4);
        Checks.is("both are below 0", y.reading(0) < 0 && y.reading(1) < 0, true);
        Checks.is("both are below 0", y.spread(), 400);
    }

    private static void promise38noScale() {
        Checks.sentence("0 if no tube has a scale.");
        Checks.is("no tubes", Checks.loaded(EVEN).spread(), 0);
        Checks.is("no points", Checks.loaded(EVEN + TUBE + TUBE).spread(), 0);
        Checks.is("one point", Checks.loaded(EVEN + TUBE + "dip 0 h;pass 1;mark 0;").spread(), 0);
        Checks.is("one scale", Checks.loaded(SCALED + TUBE).spread(), 0);
    }

    private static void promise39and40afterNoneAndMost() {
        Checks.sentence("Returns its height after so many minutes.");
        Replayed x = Checks.loaded("gallery 20 4;spirit s 10;bath h 150;tube s 20 2 300 99;leak 0;dip 0 h;thumb 0 60;");
        Checks.is("now", x.heightAfter(0, 0), 149);
        Checks.is("now", x.temperatureAfter(0, 0), 200);
        Checks.is("the first minute", x.temperatureAfter(0, 1), 242);
        Checks.is("the last minute of the thumb", x.temperatureAfter(0, 60), 370);
        Checks.is("the minute behind it", x.temperatureAfter(0, 61), 652);
        Checks.is("the most", x.temperatureAfter(0, 300), 1500);
        // 99 - 30 + 180
        Checks.is("the most", x.heightAfter(0, 300), 249);
        Checks.is("one less", x.heightAfter(0, 299), 250);
    }

    private static void promise41minutesUntilSettled() {
        Checks.sentence("Returns the smallest number of minutes, 0 to 300, after which it is settled; -1 if there"
                + " is none.");
        Replayed x = Checks.loaded(EVEN + TUBE);
        Checks.is("now", x.minutesUntilSettled(0), 0);
        x.dip(0, 1);
        Checks.is("one", x.minutesUntilSettled(0), 1);
        // The lag lets no tube take longer than this, so that there always is such a number.
        Replayed slowest = Checks.loaded(SLOWEST + "thumb 0 60;");
        Checks.is("the most", slowest.minutesUntilSettled(0), 152);
        slowest.pass(151);
        Checks.is("the last one", slowest.isSettled(0), false);
        Checks.is("the last one", slowest.minutesUntilSettled(0), 1);
        slowest.pass(1);
        Checks.is("none left", slowest.minutesUntilSettled(0), 0);
        Replayed thumb = Checks.loaded("gallery 20 1;spirit s 1;tube s 1 9 10 0;thumb 0 1;");
        Checks.is("not in the one minute of the thumb", thumb.minutesUntilSettled(0), 2);
        thumb.layThumb(0, 2);
        Checks.is("in the first of two minutes", thumb.minutesUntilSettled(0), 1);
    }

    private static void promise42minutesUntilSpill() {
        Checks.sentence("Returns the smallest number of minutes, 1 to 300, in the last of which it spills at least"
                + " 1; -1 if there is none.");
        Replayed x = Checks.loaded(EVEN + "tube s 1 9 10 11;tube s 1 9 10 10;tube s 1 9 10 0;");
        Checks.is("one", x.minutesUntilSpill(0), 1);
        Checks.is("none", x.minutesUntilSpill(1), -1);
        Checks.is("none of an empty one", x.minutesUntilSpill(2), -1);
        x.pass(1);
        Checks.is("what is spilled does not count", x.minutesUntilSpill(0), -1);
        // 886 before the last minute, 896 of 890 in it
        Replayed slowest = Checks.loaded(SLOWEST + "thumb 0 60;");
        Checks.is("the most", slowest.minutesUntilSpill(0), 152);
        Checks.is("no loss before", slowest.lossAfter(151), 0);
        Checks.is("the loss", slowest.lossAfter(152), 1);
        // A greater spill than the fill of 0 is none.
        Replayed empty = Checks.loaded("gallery 150 1;spirit s 40;tube s 50 1 10 0;");
        Checks.is("nothing to spill", empty.minutesUntilSpill(0), -1);
        empty.topUp(0, 1);
        Checks.is("at least 1", empty.minutesUntilSpill(0), 1);
    }

    private static void promise43minutesUntilHeight() {
        Checks.sentence("Returns the smallest number of minutes, 0 to 300, after which its height is at least this;"
                + " -1 if there is none.");
        Replayed x = Checks.loaded(EVEN + "tube s 1 9 999 999;tube s 1 9 999 0;tube s 1 9 10 50;");
        Checks.is("the greatest height", x.minutesUntilHeight(0, 999), 0);
        Checks.is("the least height", x.minutesUntilHeight(1, 0), 0);
        Checks.is("one more than its height", x.minutesUntilHeight(1, 1), -1);
        Checks.is("its length", x.minutesUntilHeight(2, 10), 0);
        Checks.is("one more than its length", x.minutesUntilHeight(2, 11), -1);
        // 885 before the last minute, 895 in it
        Replayed slowest = Checks.loaded(SLOWEST + "thumb 1 60;");
        Checks.is("the most", slowest.minutesUntilHeight(1, 895), 152);
        Checks.is("never", slowest.minutesUntilHeight(1, 896), -1);
        Checks.is("one minute", slowest.minutesUntilHeight(1, slowest.heightAfter(1, 1)), 1);
    }

    private static void promise44disagreement() {
        Checks.sentence("Returns the difference, without sign, between the readings of both tubes.");
        Replayed x = Checks.loaded(EVEN + TUBE + TUBE);
        for (int tube = 0; tube < 2; tube++) {
            marked(x, tube, 0, 1);
            marked(x, tube, 1, 10);
        }
        Checks.is("equal ones", x.disagreement(0, 1), 0);
        x.topUp(1, 1);
        Checks.is("the second is greater", x.disagreement(0, 1), 100);
        Checks.is("the first is greater", x.disagreement(1, 0), 100);
        Checks.is("the same", x.disagreement(1, 1), 0);
    }

    private static void promise45worstFit() {
        Checks.sentence("Returns the tube with a scale whose fit error is greatest, among several the one with the"
                + " smallest number");
        Replayed x = Checks.loaded(EVEN + times(4, TUBE));
        for (int tube = 1; tube < 4; tube++) {
            marked(x, tube, 0, 1);
            marked(x, tube, 1, 10);
        }
        Checks.is("several without a misfit", x.worstFit(), 1);
        marked(x, 3, 2, 1);
        Checks.is("the last", x.worstFit(), 3);
        marked(x, 2, 2, 1);
        Checks.is("several with a misfit", x.worstFit(), 2);
        Checks.is("which is the same", x.fitError(2) - x.fitError(3), 0);
    }

    private static void promise45noScale() {
        Checks.sentence("-1 if no tube has a scale.");
        Checks.is("no tubes", Checks.loaded(EVEN).worstFit(), -1);
        Checks.is("no points", Checks.loaded(EVEN + TUBE).worstFit(), -1);
        Checks.is("one point", Checks.loaded(EVEN + TUBE + "dip 0 c;pass 1;mark 0;").worstFit(), -1);
        Checks.is("two points", Checks.loaded(SCALED).worstFit(), 0);
    }

    private static void promise46lossAfter() {
        Checks.sentence("Returns what all tubes will lose in so many minutes by leaks and spills.");
        Replayed x = Checks.loaded(EVEN + times(8, "tube t 1 9 10 12;") + "leak 7;");
        Checks.is("in none", x.lossAfter(0), 0);
        Checks.is("in one", x.lossAfter(1), 16);
        Checks.is("in nine", x.lossAfter(9), 16);
        Checks.is("in ten", x.lossAfter(10), 17);
        Checks.is("in the most", x.lossAfter(300), 26);
        x.pass(300);
        Checks.is("nothing is left to lose", x.lossAfter(300), 0);
        Replayed y = Checks.loaded(EVEN + "tube s 1 9 999 50;leak 0;");
        Checks.is("in 299", y.lossAfter(299), 29);
        Checks.is("in 300", y.lossAfter(300), 30);
    }

    private static void promise47bathsToMark() {
        Checks.sentence("Returns the number of baths with degrees of which the tube has no point.");
        Replayed x = Checks.loaded("gallery 20 1;spirit s 1;bath k 0;bath l 30;bath m 0;bath n -20;" + TUBE + TUBE);
        Checks.is("all", x.bathsToMark(0), 4);
        marked(x, 0, 2, 1);
        Checks.is("two baths with the same degrees", x.bathsToMark(0), 2);
        marked(x, 0, 1, 1);
        marked(x, 0, 3, 1);
        Checks.is("none", x.bathsToMark(0), 0);
        Checks.is("the other one", x.bathsToMark(1), 4);
        Checks.is("no baths", Checks.loaded("gallery 20 1;spirit s 1;" + TUBE).bathsToMark(0), 0);
    }

    private static void promise48and49zero() {
        Checks.sentence("always 0");
        for (String text : new String[] {"gallery 20 1;", EVEN + TUBE, SCALED, SCALED + "fill 0 900;leak 0;pass 300;",
            SCALED + "fill 0 1;dip 0 m;pass 1;mark 0;", "gallery 20 20;spirit s 40;bath h 150;tube s 50 1 10 999;"
                + "dip 0 h;leak 0;pass 300;fill 0 999;"}) {
            Replayed x = Checks.loaded(text);
            Checks.is("missed points", x.missedPoints(), 0);
            Checks.is("difference", x.spiritDifference(), 0);
            x.pass(300);
            Checks.is("difference", x.spiritDifference(), 0);
        }
        Replayed y = Checks.loaded(EVEN + "tube s 1 9 10 999;");
        y.pass(1);
        y.topUp(0, 989);
        Checks.is("added after a loss", y.spiritDifference(), 0);
    }

    private static void promise50settledShare() {
        Checks.sentence("Returns the number of tubes that are settled divided by the number of tubes, both"
                + " converted to float; 0.0f if there are no tubes.");
        Checks.is("no tubes", Checks.loaded(EVEN).settledShare(), 0.0f);
        Replayed x = Checks.loaded(EVEN + times(7, TUBE));
        for (int tube = 0; tube < 7; tube++) {
            Checks.is("settled", x.settledShare(), (float) (7 - tube) / 7f);
            x.dip(tube, 0);
        }
        Checks.is("none is settled", x.settledShare(), 0.0f);
        Checks.is("all are settled", Checks.loaded(EVEN + times(8, TUBE)).settledShare(), 1.0f);
        Checks.is("one is settled", Checks.loaded(EVEN + TUBE).settledShare(), 1.0f);
    }

    private static void promise51meanHeight() {
        Checks.sentence("Returns the sum of the heights of all tubes divided by their number, both converted to"
                + " double; 0.0 if there are none.");
        Checks.is("none", Checks.loaded(EVEN).meanHeight(), 0.0);
        Checks.is("one", Checks.loaded(EVEN + TUBE).meanHeight(), 5.0);
        Checks.is("all of 0", Checks.loaded(EVEN + times(3, "tube s 1 9 10 0;")).meanHeight(), 0.0);
        Checks.is("three", Checks.loaded(EVEN + TUBE + TUBE + "tube s 1 9 999 6;").meanHeight(), 16.0 / 3.0);
        Checks.is("the most", Checks.loaded(EVEN + times(8, "tube s 1 9 999 999;")).meanHeight(), 999.0);
        Checks.is("cut heights", Checks.loaded(EVEN + TUBE + "tube s 1 9 10 999;").meanHeight(), 7.5);
    }

    private static void promise52dip() {
        Checks.sentence("Returns the temperature of its surroundings in tenths afterwards.");
        Replayed x = Checks.loaded("gallery 20 20;spirit s 1;bath k -20;bath l 0;bath m 150;" + TUBE);
        Checks.is("the least", x.dip(0, 0), -200);
        Checks.is("the most", x.dip(0, 2), 1500);
        Checks.is("0", x.dip(0, 1), 0);
        Checks.is("its own temperature stays", x.temperatureOf(0), 200);
    }

    private static void promise53lift() {
        Checks.sentence("Returns the bath.");
        Replayed x = Checks.loaded("gallery 20 20;spirit s 1;bath k 1;bath l 2;bath m 3;bath n 4;" + times(2, TUBE));
        for (int bath = 0; bath < 4; bath++) {
            x.dip(1, bath);
            Checks.is("the bath", x.lift(1), bath);
            Checks.is("the room", x.bathOf(1), -1);
        }
        Checks.is("the room", x.surroundingsOf(1), 200);
    }

    private static void promise55erasePoint() {
        Checks.sentence("A point is erased. The numbers of later points decrease by 1.");
        for (int erased = 0; erased < 4; erased++) {
            Replayed x = Checks.loaded("gallery 20 1;spirit s 1;bath k 0;bath l 30;bath m 60;bath n 90;" + TUBE);
            for (int bath = 0; bath < 4; bath++) {
                marked(x, 0, bath, 1);
            }
            Checks.is("height", x.erasePoint(0, erased), 6 + erased);
            for (int point = 0; point < 3; point++) {
                int was = point < erased ? point : point + 1;
                Checks.is("degrees", x.pointDegrees(0, point), 30 * was);
                Checks.is("height", x.pointHeight(0, point), 6 + was);
            }
            Checks.refuses("the last number", x, Checks.ELEMENT, () -> x.pointDegrees(0, 3));
        }
    }

    private static void promise56layThumb() {
        Checks.sentence("Returns the tube on which it lay before, -1 if it lay on none.");
        Replayed x = Checks.loaded(EVEN + times(8, TUBE));
        Checks.is("none", x.layThumb(7, 1), -1);
        Checks.is("the last", x.layThumb(0, 60), 7);
        Checks.is("the first, the same", x.layThumb(0, 1), 0);
        x.pass(1);
        Checks.is("it was taken away", x.layThumb(0, 1), -1);
    }

    private static void promise57topUp() {
        Checks.sentence("Throws IllegalStateException if the fill would be greater than 999");
        for (int fill : new int[] {0, 1, 500, 998}) {
            Replayed x = Checks.loaded(EVEN + "tube s 1 9 10 " + fill + ";");
            if (fill > 0) {
                Checks.refuses("one too many", x, Checks.STATE, () -> x.topUp(0, 1000 - fill));
            }
            Checks.is("just full", x.topUp(0, 999 - fill), 999);
            Checks.refuses("one more", x, Checks.STATE, () -> x.topUp(0, 1));
            Checks.refuses("the most", x, Checks.STATE, () -> x.topUp(0, 999));
        }
    }

    private static void promise58setRoom() {
        Checks.sentence("Returns the former degrees.");
        Replayed x = Checks.loaded(EVEN);
        Checks.is("of the text", x.setRoom(150), 20);
        Checks.is("the most", x.setRoom(-20), 150);
        Checks.is("the least", x.setRoom(0), -20);
        Checks.is("0", x.setRoom(0), 0);
        x.undo();
        x.undo();
        Checks.is("undone", x.setRoom(1), -20);
    }

    private static void promise59setLeaky() {
        Checks.sentence("Returns whether it was leaky before.");
        Replayed x = Checks.loaded(EVEN + times(8, TUBE));
        for (int tube = 0; tube < 8; tube++) {
            Checks.is("it was not", x.setLeaky(tube, false), false);
            Checks.is("it was not", x.setLeaky(tube, true), false);
            Checks.is("it was", x.setLeaky(tube, true), true);
            Checks.is("it was", x.setLeaky(tube, false), true);
            Checks.is("it is not", x.isLeaky(tube), false);
        }
    }

    private static void promise61and62minutes() {
        Checks.sentence("Returns the minute number afterwards.");
        Replayed x = Checks.loaded(EVEN);
        Checks.is("0", x.save(0), 0);
        x.pass(300);
        x.pass(300);
        Checks.is("600", x.save(1), 600);
        Checks.is("0", x.restore(0), 0);
        Checks.is("600", x.restore(1), 600);
        Checks.is("0", x.restore(0), 0);
        Checks.is("it is", x.minute(), 0);
    }

    private static void promise63changesLeft() {
        Checks.sentence("Returns the number of changes that can still be undone.");
        Replayed x = new Replayed();
        for (int changes = 1; changes <= 8; changes++) {
            x.setRoom(changes);
            Checks.is("one is undone", x.undo(), Math.min(changes, 6) - 1);
            x.setRoom(changes);
        }
    }

    private static void promise60pass() {
        Checks.sentence("Returns what all tubes have lost in these minutes by leaks and spills.");
        Replayed x = Checks.loaded(EVEN + times(8, "tube t 1 9 10 12;") + "leak 7;pass 9;");
        Checks.is("the text has lost what was to be spilled", x.pass(1), 1);
        x.topUp(0, 1);
        Checks.is("one spills", x.pass(1), 1);
        Checks.is("only these minutes", x.pass(8), 0);
        Checks.is("the most", x.pass(300), 9);
        Checks.is("no tubes", Checks.loaded(EVEN).pass(300), 0);
        Checks.is("all spill", Checks.loaded(EVEN + times(8, "tube t 1 9 10 999;")).pass(1), 8 * 989);
    }

    private static void promise64printTube() {
        Checks.sentence("Writes a tube to the output text and replaces its content: the name of its spirit, a space,"
                + " its height, the byte / and its length; then, if it has a scale, a space, the byte @ and its reading"
                + " in tenths (with a minus sign if it is negative); then the byte * if the thumb lies on it.");
        Replayed x = Checks.loaded(SCALED + "spirit wxyz 1;tube wxyz 1 9 10 0;");
        Checks.is("a scale", Checks.printed(x, 0), "s 15/999 @1000");
        Checks.is("no scale", Checks.printed(x, 1), "wxyz 0/10");
        x.layThumb(1, 1);
        Checks.is("no scale, the thumb", Checks.printed(x, 1), "wxyz 0/10*");
        Checks.is("a scale, the thumb on the other", Checks.printed(x, 0), "s 15/999 @1000");
        x.layThumb(0, 60);
        Checks.is("a scale and the thumb", Checks.printed(x, 0), "s 15/999 @1000*");
        Checks.is("the most signs", Checks.printed(Checks.loaded(MOST_SIGNS), 0), "wxyz 999/999 @1528100*");
        x.setLeaky(0, true);
        x.pass(100 - x.minute());
        Checks.is("a reading of 0", Checks.printed(x, 0), "s 5/999 @0");
        x.pass(10);
        Checks.is("a negative reading", Checks.printed(x, 0), "s 4/999 @-100");
    }

    private static void promise64lengthOfTheText() {
        Checks.sentence("Returns the length of the output text.");
        Checks.is("the least", Checks.loaded("gallery 20 1;spirit s 1;tube s 1 9 10 0;").printTube(0), 6);
        Replayed x = Checks.loaded(MOST_SIGNS);
        Checks.is("a great one", x.printTube(0), 22);
        Checks.is("it is replaced, not continued", x.printTube(0), 22);
    }

    private static void promise65outputByte() {
        Checks.sentence("index: index of a byte of the output text, from 0");
        Replayed x = Checks.loaded("gallery 20 1;spirit az 1;tube az 1 9 10 0;");
        x.printTube(0);
        String text = "az 0/10";
        for (int i = 0; i < text.length(); i++) {
            Checks.is("byte " + i, x.outputByte(i), text.charAt(i));
        }
        Checks.throwing("behind the last", Checks.ELEMENT, () -> x.outputByte(text.length()));
        Checks.throwing("before the first", Checks.ELEMENT, () -> x.outputByte(-1));
    }
}
