/** "Terms" of DOC.md from "Temperatures" to "A minute": each sentence that names an edge has a test of its own. */
public final class TermsEdgesTest {
    private static final String[] NAMES = {"a", "zz", "bcd", "wxyz", "e"};
    // The spirit does not rise within the bore of 9: a height is a fill, and a lag of 1 settles in a minute.
    private static final String EVEN = "gallery 20 1;spirit s 1;bath c 0;bath h 100;bath m 50;tube s 1 9 999 5;"
            + "tube s 1 9 999 5;";
    private static final String MARKED = EVEN + "dip 0 c;pass 1;mark 0;fill 0 10;";
    // The free height is its fill + (t + 300) / 10, so the fill + 50 at 20 degrees.
    private static final String RISING = "gallery 20 1;spirit s 10;bath c 0;bath h 100;";

    public static void main(String[] args) {
        tenths();
        degrees();
        fiveSpirits();
        spiritNames();
        expansions();
        eightTubes();
        bulbs();
        bores();
        lengths();
        fills();
        firstTemperatures();
        notLeaky();
        leakyOrNot();
        freeHeights();
        heights();
        fourBaths();
        bathNames();
        sameNames();
        inTheRoomAtFirst();
        surroundings();
        settled();
        dipReasons();
        oneThumb();
        thumbTaken();
        thumbOnLifted();
        points();
        markReasonRoom();
        markReasonSettled();
        markReasonDegrees();
        markReasonHeight();
        markReasonSix();
        markOrder();
        pointsOfCutHeights();
        scales();
        lowerAndUpper();
        truncatedQuotients();
        readings();
        minuteNumbers();
        allTubes();
        lags();
        leaks();
        leakMinutes();
        spills();
        spillsAfterWarming();
        spillsAfterLeaks();
        thumbMinutes();
        thumbLast();
        Checks.finish("TermsEdgesTest");
    }

    // ---- Temperatures ----

    private static void tenths() {
        Checks.sentence("A degree has ten tenths.");
        Replayed x = Checks.loaded("gallery 7 1;spirit s 1;bath c -3;bath h 100;tube s 1 9 999 5;dip 0 c;");
        Checks.is("of the room at first", x.temperatureOf(0), 70);
        Checks.is("of a bath", x.surroundingsOf(0), -30);
        x.pass(1);
        x.mark(0);
        x.topUp(0, 1);
        Checks.is("of another bath", x.dip(0, 1), 1000);
        x.pass(1);
        x.mark(0);
        Checks.is("of a point", x.scaleAt(0, 5), -30);
        x.setRoom(150);
        x.lift(0);
        Checks.is("of the room", x.surroundingsOf(0), 1500);
    }

    private static void degrees() {
        Checks.sentence("The room and the baths have whole degrees from -20 to 150.");
        for (int degrees : new int[] {-20, -1, 0, 150}) {
            Checks.is("gallery", Checks.loaded("gallery " + degrees + " 1;").roomDegrees(), degrees);
            Checks.is("room", Checks.loaded("gallery 20 1;room " + degrees + ";").roomDegrees(), degrees);
            Checks.is("bath", Checks.loaded("gallery 20 1;bath b " + degrees + ";").bathDegrees(0), degrees);
            Replayed x = Checks.loaded("gallery 20 1;");
            x.setRoom(degrees);
            Checks.is("setRoom", x.roomDegrees(), degrees);
        }
        for (String before : new String[] {"gallery ", "gallery 20 1;room ", "gallery 20 1;bath b "}) {
            Checks.error(before + "-^21 1;", 2);
            Checks.error(before + "^151 1;", 2);
        }
        Replayed x = Checks.loaded("gallery 20 1;");
        Checks.refuses("setRoom", x, Checks.ARGUMENT, () -> x.setRoom(-21));
        Checks.refuses("setRoom", x, Checks.ARGUMENT, () -> x.setRoom(151));
    }

    // ---- Spirits and tubes ----

    private static void fiveSpirits() {
        Checks.sentence("There are at most 5 spirits, numbered from 0 in the order of the setup text.");
        String text = "gallery 20 1;";
        for (int i = 0; i < 5; i++) {
            text += "spirit " + NAMES[i] + " " + (i + 1) + ";tube " + NAMES[i] + " 1 9 999 " + (10 + i) + ";";
        }
        Replayed x = Checks.loaded(text);
        for (int i = 0; i < 5; i++) {
            Checks.is("spirit", x.spiritOf(i), i);
            Checks.is("in tubes", x.spiritInTubes(i), 10 + i);
            Checks.is("name", Checks.printed(x, i), NAMES[i] + " " + (10 + i) + "/999");
        }
        Checks.refuses("a sixth", x, Checks.INDEX, () -> x.spiritInTubes(5));
        Checks.error(text + "^spirit f 1;", 5);
        Replayed none = Checks.loaded("gallery 20 1;bath b 5;");
        Checks.refuses("none", none, Checks.INDEX, () -> none.spiritInTubes(0));
    }

    private static void spiritNames() {
        Checks.sentence("A spirit has a name of 1 to 4 letters");
        for (String name : new String[] {"a", "z", "az", "zza", "abcd", "zzzz"}) {
            Replayed x = Checks.loaded("gallery 20 1;spirit " + name + " 1;tube " + name + " 1 9 999 5;");
            Checks.is("name", Checks.printed(x, 0), name + " 5/999");
        }
        Checks.error("gallery 20 1;spirit ^abcde 1;", 2);
        Checks.error("gallery 20 1;spirit ^1;", 1);
        Checks.error("gallery 20 1;spirit ^;", 1);
    }

    private static void expansions() {
        Checks.sentence("and an expansion (1 to 40).");
        Checks.is("least", Checks.loaded("gallery 20 1;spirit s 1;tube s 50 1 10 0;").freeHeightAt(0, 1500), 90);
        Checks.is("most", Checks.loaded("gallery 20 1;spirit s 40;tube s 50 1 10 0;").freeHeightAt(0, 1500), 3600);
        Checks.range("gallery 20 1;spirit s ", 1, 40, ";");
    }

    private static void eightTubes() {
        Checks.sentence("There are at most 8 tubes, numbered from 0.");
        String text = "gallery 20 1;spirit s 1;";
        for (int i = 0; i < 8; i++) {
            text += "tube s 1 9 999 " + (50 + i) + ";";
        }
        Replayed x = Checks.loaded(text);
        for (int i = 0; i < 8; i++) {
            Checks.is("fill", x.fillOf(i), 50 + i);
        }
        Checks.refuses("a ninth", x, Checks.INDEX, () -> x.fillOf(8));
        Checks.error(text + "^tube s 1 1 10 0;", 5);
        Replayed none = Checks.loaded("gallery 20 1;spirit s 1;");
        Checks.refuses("none", none, Checks.INDEX, () -> none.fillOf(0));
    }

    private static void bulbs() {
        Checks.sentence("A tube has a spirit, a bulb (1 to 50)");
        String text = "gallery 20 1;spirit s 40;tube s ";
        Checks.is("least", Checks.loaded(text + "1 1 10 0;").freeHeightAt(0, 1500), 72);
        Checks.is("most", Checks.loaded(text + "50 1 10 0;").freeHeightAt(0, 1500), 3600);
        Checks.range(text, 1, 50, " 1 10 0;");
    }

    private static void bores() {
        Checks.sentence("a bore (1 to 9)");
        String text = "gallery 20 1;spirit s 40;tube s 50 ";
        Checks.is("least", Checks.loaded(text + "1 10 0;").freeHeightAt(0, 1500), 3600);
        Checks.is("most", Checks.loaded(text + "9 10 0;").freeHeightAt(0, 1500), 400);
        Checks.range(text, 1, 9, " 10 0;");
    }

    private static void lengths() {
        Checks.sentence("a length (10 to 999)");
        String text = "gallery 20 1;spirit s 40;tube s 50 1 ";
        Checks.is("least", Checks.printed(Checks.loaded(text + "10 0;"), 0), "s 10/10");
        Checks.is("most", Checks.printed(Checks.loaded(text + "999 0;"), 0), "s 999/999");
        Checks.range(text, 10, 999, " 0;");
    }

    private static void fills() {
        Checks.sentence("a fill (0 to 999)");
        String text = "gallery 20 1;spirit s 1;tube s 1 9 999 ";
        Checks.is("least", Checks.loaded(text + "0;").fillOf(0), 0);
        Checks.is("most", Checks.loaded(text + "999;").fillOf(0), 999);
        Checks.range(text, 0, 999, ";");
    }

    private static void firstTemperatures() {
        Checks.sentence("a temperature in tenths (at first that of the room at the moment at which the tube is"
                + " described)");
        Replayed x = Checks.loaded("gallery -20 1;spirit s 1;tube s 1 9 10 0;room 150;tube s 1 9 10 0;room 0;"
                + "tube s 1 9 10 0;room 7;");
        Checks.is("the coldest room", x.temperatureOf(0), -200);
        Checks.is("the hottest room", x.temperatureOf(1), 1500);
        Checks.is("the room before it was set", x.temperatureOf(2), 0);
    }

    private static void notLeaky() {
        Checks.sentence("a tube with a spirit (a name), which is not leaky.");
        Replayed x = Checks.loaded(EVEN + "leak 1;");
        Checks.is("described", x.isLeaky(0), false);
        Checks.is("leaks", x.isLeaky(1), true);
    }

    private static void leakyOrNot() {
        Checks.sentence("and it is leaky or not.");
        Replayed x = Checks.loaded(EVEN + "leak 0;leak 1;seal 1;");
        Checks.is("leaky", x.isLeaky(0), true);
        Checks.is("not", x.isLeaky(1), false);
        Checks.is("only the leaky one loses", x.pass(10), 1);
        Checks.is("not leaky any more", x.setLeaky(0, false), true);
        Checks.is("not", x.isLeaky(0), false);
        Checks.is("none loses", x.pass(10), 0);
    }

    private static void freeHeights() {
        Checks.sentence("The free height of a tube at a temperature t (in tenths) is its fill plus (bulb *"
                + " expansion * (t + 300)) / (bore * 1000), where the division is rounded down.");
        // 5 + 21 * (t + 300) / 2000: 2079 just not 2, 2100 just beyond; 37800 at the most
        Replayed x = Checks.loaded("gallery 20 1;spirit a 7;tube a 3 2 10 5;");
        Checks.is("at -200", x.freeHeightAt(0, -200), 5 + 1);
        Checks.is("just below 2", x.freeHeightAt(0, -110), 5 + 1);
        Checks.is("just above 2", x.freeHeightAt(0, -109), 5 + 2);
        Checks.is("at 1500", x.freeHeightAt(0, 1500), 5 + 18);
        // (t + 300) / 10 is whole in every degree.
        Replayed y = Checks.loaded(RISING + "tube s 20 2 10 0;");
        Checks.is("one tenth below a whole one", y.freeHeightAt(0, 199), 49);
        Checks.is("a whole one", y.freeHeightAt(0, 200), 50);
        Checks.is("the most", Checks.loaded("gallery 20 1;spirit s 40;tube s 50 1 10 999;").freeHeightAt(0, 1500),
                999 + 3600);
        Checks.is("the least", Checks.loaded("gallery 20 1;spirit s 1;tube s 1 9 10 0;").freeHeightAt(0, 1500), 0);
    }

    private static void heights() {
        Checks.sentence("Its height is its free height at its temperature, but at most its length.");
        Replayed x = Checks.loaded(RISING + "tube s 20 2 100 49;tube s 20 2 100 50;tube s 20 2 100 51;"
                + "tube s 20 2 100 999;");
        Checks.is("one below its length", x.height(0), 99);
        Checks.is("its length", x.height(1), 100);
        Checks.is("one above its length", x.height(2), 100);
        Checks.is("far above its length", x.height(3), 100);
    }

    // ---- Baths ----

    private static void fourBaths() {
        Checks.sentence("There are at most 4 baths, numbered from 0.");
        String text = "gallery 20 1;";
        for (int i = 0; i < 4; i++) {
            text += "bath " + NAMES[i] + " " + (30 + i) + ";";
        }
        Replayed x = Checks.loaded(text + "spirit s 1;tube s 1 9 10 0;dip 0 " + NAMES[3] + ";");
        for (int i = 0; i < 4; i++) {
            Checks.is("degrees", x.bathDegrees(i), 30 + i);
        }
        Checks.is("the last", x.bathOf(0), 3);
        Checks.refuses("a fifth", x, Checks.INDEX, () -> x.bathDegrees(4));
        Checks.error(text + "^bath f 1;", 5);
        Replayed none = Checks.loaded("gallery 20 1;spirit s 1;");
        Checks.refuses("none", none, Checks.INDEX, () -> none.bathDegrees(0));
    }

    private static void bathNames() {
        Checks.sentence("A bath has a name of 1 to 4 letters and a temperature.");
        for (String name : new String[] {"a", "z", "az", "zza", "abcd", "zzzz"}) {
            String text = "gallery 20 1;spirit s 1;tube s 1 9 10 0;bath y 1;bath " + name + " 2;dip 0 " + name + ";";
            Checks.is("bath", Checks.loaded(text).bathOf(0), 1);
        }
        Checks.error("gallery 20 1;bath ^abcde 1;", 2);
        Checks.error("gallery 20 1;bath ^1;", 1);
        Checks.error("gallery 20 1;bath ^;", 1);
    }

    private static void sameNames() {
        Checks.sentence("No two spirits or baths have the same name.");
        Checks.error("gallery 20 1;spirit ab 1;spirit ^ab 1;", 3);
        Checks.error("gallery 20 1;bath ab 1;bath ^ab 1;", 3);
        Checks.error("gallery 20 1;spirit ab 1;bath ^ab 1;", 3);
        Checks.error("gallery 20 1;bath ab 1;spirit ^ab 1;", 3);
        Checks.error("gallery 20 1;bath wxyz 1;bath ab 1;bath c 1;bath ^wxyz 1;", 3);
        Checks.error("gallery 20 1;spirit a 1;spirit b 1;spirit c 1;spirit d 1;spirit e 1;bath ^e 1;", 3);
        Checks.error("gallery 20 1;bath a 1;bath b 1;bath c 1;bath d 1;spirit ^d 1;", 3);
        Checks.loaded("gallery 20 1;spirit a 1;spirit aa 1;bath ab 1;bath ba 1;spirit aaa 1;bath aaaa 1;");
    }

    private static void inTheRoomAtFirst() {
        Checks.sentence("A tube is in the room or in one bath; it is in the room at first.");
        Replayed x = Checks.loaded(EVEN);
        Checks.is("at first", x.bathOf(0), -1);
        x.dip(0, 0);
        x.dip(0, 1);
        Checks.is("in one bath", x.bathOf(0), 1);
        Checks.is("not in the other", x.tubesIn(0), 0);
        x.lift(0);
        Checks.is("in the room", x.bathOf(0), -1);
        Checks.is("in no bath", x.tubesIn(0) + x.tubesIn(1) + x.tubesIn(2), 0);
    }

    private static void surroundings() {
        Checks.sentence("As long as the thumb lies on a tube, its surroundings have 370 tenths; otherwise they have"
                + " the temperature of the bath or the room.");
        Replayed x = Checks.loaded("gallery -20 1;spirit s 1;bath h 150;tube s 1 9 10 0;tube s 1 9 10 0;dip 1 h;");
        Checks.is("the room", x.surroundingsOf(0), -200);
        Checks.is("the bath", x.surroundingsOf(1), 1500);
        x.layThumb(0, 1);
        Checks.is("the thumb in the room", x.surroundingsOf(0), 370);
        Checks.is("the other one", x.surroundingsOf(1), 1500);
        x.layThumb(1, 1);
        Checks.is("the thumb in the bath", x.surroundingsOf(1), 370);
        x.pass(1);
        Checks.is("the room again", x.surroundingsOf(0), -200);
        Checks.is("the bath again", x.surroundingsOf(1), 1500);
    }

    private static void settled() {
        Checks.sentence("A tube is settled if its temperature is that of its surroundings.");
        Replayed x = Checks.loaded("gallery 20 10;spirit s 1;bath h 21;bath c 19;tube s 1 9 10 0;tube s 1 9 10 0;");
        Checks.is("at once", x.isSettled(0), true);
        x.dip(0, 0);
        x.dip(1, 1);
        x.pass(1);
        // 201 and 199; one tenth from 200, nine from the baths
        x.lift(0);
        x.lift(1);
        Checks.is("a tenth too hot", x.temperatureOf(0) == 201 && x.isSettled(0), false);
        Checks.is("a tenth too cold", x.temperatureOf(1) == 199 && x.isSettled(1), false);
        x.pass(1);
        Checks.is("not any more", x.isSettled(0), true);
        Checks.is("not any more", x.isSettled(1), true);
    }

    private static void dipReasons() {
        Checks.sentence("Dipping a tube into a bath is refused for the first of these reasons that applies: 1 it is"
                + " in this bath, 2 the thumb lies on it.");
        Replayed x = Checks.loaded(EVEN + "dip 0 c;");
        Checks.is("none", x.dipRefusal(0, 1), 0);
        Checks.is("1", x.dipRefusal(0, 0), 1);
        Checks.refuses("1", x, Checks.STATE, () -> x.dip(0, 0));
        x.layThumb(0, 1);
        Checks.is("1 before 2", x.dipRefusal(0, 0), 1);
        Checks.refuses("1 before 2", x, Checks.STATE, () -> x.dip(0, 0));
        Checks.is("2", x.dipRefusal(0, 1), 2);
        Checks.refuses("2", x, Checks.STATE, () -> x.dip(0, 1));
        Checks.is("the thumb lies on another one", x.dipRefusal(1, 1), 0);
        x.layThumb(1, 1);
        Checks.is("2 in the room", x.dipRefusal(1, 1), 2);
        Checks.is("none without the thumb", x.dip(0, 1), 1000);
    }

    // ---- The thumb ----

    private static void oneThumb() {
        Checks.sentence("There is one thumb. It lies on at most one tube, for a number of minutes.");
        Replayed x = Checks.loaded(EVEN);
        Checks.is("on none", x.thumbedTube(), -1);
        Checks.is("for no minutes", x.thumbLeft(), 0);
        x.layThumb(1, 1);
        Checks.is("on one", x.thumbedTube(), 1);
        Checks.is("for the fewest minutes", x.thumbLeft(), 1);
        x.layThumb(0, 60);
        Checks.is("on one", x.thumbedTube(), 0);
        Checks.is("for the most minutes", x.thumbLeft(), 60);
    }

    private static void thumbTaken() {
        Checks.sentence("To lay it on a tube takes it from any other one and replaces the minutes.");
        Replayed x = Checks.loaded(EVEN + "thumb 0 60;thumb 1 7;");
        Checks.is("taken in the text", x.surroundingsOf(0), 200);
        Checks.is("replaced in the text", x.thumbLeft(), 7);
        x.layThumb(0, 2);
        Checks.is("taken", x.surroundingsOf(1), 200);
        Checks.is("replaced by less", x.thumbLeft(), 2);
        x.layThumb(0, 9);
        Checks.is("it lies on the same", x.thumbedTube(), 0);
        Checks.is("replaced by more, not added", x.thumbLeft(), 9);
    }

    private static void thumbOnLifted() {
        Checks.sentence("It stays on a tube that is lifted.");
        Replayed x = Checks.loaded(EVEN + "dip 0 c;dip 1 c;thumb 0 9;");
        x.lift(0);
        Checks.is("it stays", x.thumbedTube(), 0);
        Checks.is("its minutes stay", x.thumbLeft(), 9);
        x.lift(1);
        Checks.is("another one is lifted", x.thumbedTube(), 0);
        Replayed y = Checks.loaded(EVEN + "dip 0 c;thumb 0 9;lift 0;");
        Checks.is("it stays in the text", y.thumbedTube(), 0);
    }

    // ---- Points and scales ----

    /** Only four points are possible: they have the degrees of different baths. */
    private static void points() {
        Checks.sentence("A tube has at most 6 marked points, each with whole degrees and a height, numbered from 0"
                + " in the order in which they were marked.");
        int[] degrees = {70, -20, 150, 0};
        Replayed x = Checks.loaded("gallery 20 1;spirit s 1;bath a 70;bath b -20;bath c 150;bath d 0;"
                + "tube s 1 9 999 100;tube s 1 9 999 0;leak 0;");
        Checks.is("none", x.pointCount(0), 0);
        for (int i = 0; i < 4; i++) {
            x.dip(0, i);
            x.pass(10);
            Checks.is("points", x.mark(0), i + 1);
        }
        for (int i = 0; i < 4; i++) {
            Checks.is("degrees", x.pointDegrees(0, i), degrees[i]);
            Checks.is("height", x.pointHeight(0, i), 99 - i);
        }
        Checks.refuses("a fifth", x, Checks.ELEMENT, () -> x.pointHeight(0, 4));
        Checks.is("no bath is left", x.bathsToMark(0), 0);
        Checks.is("none on the other one", x.pointCount(1), 0);
    }

    private static void reason(String what, Replayed x, int reason) {
        Checks.is(what, x.markRefusal(0), reason);
        if (reason == 0) {
            Checks.is(what + ": mark", x.mark(0), x.pointCount(0));
        } else {
            Checks.refuses(what + ": mark", x, Checks.STATE, () -> x.mark(0));
        }
    }

    private static void markReasonRoom() {
        Checks.sentence("Marking a point is refused for the first of these reasons that applies: 1 the tube is not"
                + " in a bath");
        reason("in the room", Checks.loaded(EVEN), 1);
        reason("lifted", Checks.loaded(EVEN + "dip 0 c;pass 1;lift 0;"), 1);
        reason("the other one is in a bath", Checks.loaded(EVEN + "dip 1 c;pass 1;"), 1);
        reason("in a bath", Checks.loaded(EVEN + "dip 0 c;pass 1;"), 0);
    }

    private static void markReasonSettled() {
        Checks.sentence("2 it is not settled, or the thumb lies on it");
        reason("not settled", Checks.loaded(EVEN + "dip 0 c;"), 2);
        reason("nine tenths too hot", Checks.loaded("gallery 1 10;spirit s 1;bath c 0;tube s 1 9 10 5;dip 0 c;pass 1;"),
                2);
        reason("settled", Checks.loaded("gallery 1 10;spirit s 1;bath c 0;tube s 1 9 10 5;dip 0 c;pass 2;"), 0);
        reason("settled under the thumb", Checks.loaded(EVEN + "dip 0 c;thumb 0 9;pass 1;"), 2);
        reason("settled in a bath like the thumb", Checks.loaded("gallery 37 1;spirit s 1;bath b 37;tube s 1 9 10 5;"
                + "dip 0 b;thumb 0 1;"), 2);
        reason("the thumb lies on the other one", Checks.loaded(EVEN + "dip 0 c;thumb 1 9;pass 1;"), 0);
        reason("the thumb is taken away", Checks.loaded(EVEN + "dip 0 c;thumb 0 1;pass 2;"), 0);
    }

    private static void markReasonDegrees() {
        Checks.sentence("3 it has a point with the degrees of the bath");
        reason("the only point", Checks.loaded(MARKED), 3);
        reason("another bath", Checks.loaded(MARKED + "dip 0 h;pass 1;"), 0);
        String two = MARKED + "dip 0 h;pass 1;mark 0;fill 0 10;";
        reason("the last point", Checks.loaded(two), 3);
        reason("the first point", Checks.loaded(two + "dip 0 c;pass 1;"), 3);
        reason("erased", Checks.loaded(two + "erase 0 0;dip 0 c;pass 1;"), 0);
        reason("another bath with the same degrees", Checks.loaded("gallery 0 1;spirit s 1;bath a 0;bath b 0;"
                + "tube s 1 9 999 5;dip 0 a;mark 0;fill 0 1;dip 0 b;"), 3);
        reason("a point of the other one", Checks.loaded(MARKED + "dip 0 h;dip 1 h;pass 1;mark 1;"), 0);
    }

    private static void markReasonHeight() {
        Checks.sentence("4 it has a point with its height");
        reason("the only point", Checks.loaded(EVEN + "dip 0 c;pass 1;mark 0;dip 0 h;pass 1;"), 4);
        reason("one more", Checks.loaded(EVEN + "dip 0 c;pass 1;mark 0;dip 0 h;pass 1;fill 0 1;"), 0);
        reason("the last point", Checks.loaded(MARKED + "dip 0 h;pass 1;mark 0;dip 0 m;pass 1;"), 4);
        // From 15 back to the 5 of the first point
        reason("the first point", Checks.loaded(MARKED + "dip 0 h;pass 1;mark 0;dip 0 m;leak 0;pass 100;"), 4);
        reason("both are cut at the length", Checks.loaded(RISING + "tube s 20 2 20 999;dip 0 c;pass 300;mark 0;"
                + "dip 0 h;pass 1;"), 4);
    }

    /** With a point for each of four baths there is none left that reason 3 would not name first. */
    private static void markReasonSix() {
        Checks.sentence("5 it has 6 points.");
        String text = "gallery 20 1;spirit s 1;bath a 70;bath b -20;bath c 150;bath d 0;tube s 1 9 999 100;";
        for (String name : new String[] {"a", "b", "c", "d"}) {
            reason("a point less", Checks.loaded(text + "dip 0 " + name + ";pass 1;"), 0);
            text += "dip 0 " + name + ";pass 1;mark 0;fill 0 1;";
        }
        for (String name : new String[] {"a", "b", "c"}) {
            reason("four points", Checks.loaded(text + "dip 0 " + name + ";pass 1;"), 3);
        }
    }

    private static void markOrder() {
        Checks.sentence("the first of these reasons that applies");
        reason("1 before 2", Checks.loaded(EVEN + "room 30;"), 1);
        reason("1 before 2, the thumb", Checks.loaded(EVEN + "thumb 0 1;"), 1);
        reason("1 before 4", Checks.loaded(EVEN + "dip 0 c;pass 1;mark 0;lift 0;pass 1;"), 1);
        reason("2 before 3", Checks.loaded(MARKED + "dip 0 h;pass 1;dip 0 c;"), 2);
        reason("2 before 4", Checks.loaded(EVEN + "dip 0 c;pass 1;mark 0;dip 0 h;"), 2);
        reason("2 before 3 and 4", Checks.loaded(EVEN + "dip 0 c;pass 1;mark 0;lift 0;pass 1;dip 0 c;"), 2);
        reason("2 before 3 and 4, the thumb", Checks.loaded(EVEN + "dip 0 c;pass 1;mark 0;thumb 0 1;"), 2);
        reason("3 before 4", Checks.loaded(EVEN + "dip 0 c;pass 1;mark 0;"), 3);
    }

    private static void pointsOfCutHeights() {
        Checks.sentence("The point has the degrees of the bath and the height of the tube.");
        Replayed x = Checks.loaded("gallery 150 1;spirit s 40;bath h 150;bath c -20;tube s 50 1 10 0;dip 0 h;mark 0;");
        Checks.is("degrees", x.pointDegrees(0, 0), 150);
        Checks.is("its length", x.pointHeight(0, 0), 10);
        Replayed y = Checks.loaded("gallery -20 1;spirit s 1;bath c -20;tube s 1 9 10 0;dip 0 c;mark 0;");
        Checks.is("degrees", y.pointDegrees(0, 0), -20);
        Checks.is("height 0", y.pointHeight(0, 0), 0);
    }

    private static void scales() {
        Checks.sentence("A tube with at least 2 points has a scale.");
        Replayed x = Checks.loaded(EVEN);
        Checks.is("0 points", x.hasScale(0), false);
        for (int i = 0; i < 3; i++) {
            x.dip(0, i);
            x.pass(1);
            x.mark(0);
            x.topUp(0, 1);
            Checks.is("points " + (i + 1), x.hasScale(0), i >= 1);
        }
        Checks.is("not the other one", x.hasScale(1), false);
        x.erasePoint(0, 0);
        Checks.is("2 points left", x.hasScale(0), true);
        x.erasePoint(0, 0);
        Checks.is("1 point left", x.hasScale(0), false);
    }

    private static void lowerAndUpper() {
        Checks.sentence("The lower point of the scale is the point with the smallest degrees, the upper one the"
                + " point with the greatest degrees.");
        int[][] orders = {{0, 1, 2}, {0, 2, 1}, {1, 0, 2}, {1, 2, 0}, {2, 0, 1}, {2, 1, 0}};
        for (int[] order : orders) {
            // -20 and 150 degrees, 40 between them; the heights 100, 110 and 120 in the order of marking
            Replayed x = Checks.loaded("gallery 20 1;spirit s 1;bath a -20;bath b 40;bath c 150;tube s 1 9 999 100;");
            int[] heights = new int[3];
            for (int i = 0; i < 3; i++) {
                x.dip(0, order[i]);
                x.pass(1);
                heights[order[i]] = 100 + 10 * i;
                x.mark(0);
                x.topUp(0, 10);
            }
            Checks.is("lower point", x.scaleAt(0, heights[0]), -200);
            Checks.is("upper point", x.scaleAt(0, heights[2]), 1500);
            int between = 1700 * (heights[1] - heights[0]) / (heights[2] - heights[0]) - 200;
            Checks.is("between", x.scaleAt(0, heights[1]), between);
            Checks.is("missed", x.missedPoints(), 0);
        }
    }

    private static void truncatedQuotients() {
        Checks.sentence("The scale tells for a height h the tenths 10 * d + 10 * (e - d) * (h - a) / (b - a), where"
                + " d and a are the degrees and the height of the lower point, e and b those of the upper point,"
                + " and the division is truncated. (The quotient is added to 10 * d.)");
        // -100 at 100, 0 at 107: 100 / 7 = 14.28
        Replayed x = Checks.loaded("gallery 20 1;spirit s 1;bath a -10;bath b 0;tube s 1 9 999 100;dip 0 a;pass 1;"
                + "mark 0;fill 0 7;dip 0 b;pass 1;mark 0;");
        Checks.is("one above: 14.28", x.scaleAt(0, 101), -100 + 14);
        Checks.is("one below: -14.28", x.scaleAt(0, 99), -100 - 14);
        Checks.is("six above: 85.71", x.scaleAt(0, 106), -100 + 85);
        Checks.is("six below: -85.71", x.scaleAt(0, 94), -100 - 85);
        Checks.is("the least height: -1428.57", x.scaleAt(0, 0), -100 - 1428);
        Checks.is("the greatest height: 12842.85", x.scaleAt(0, 999), -100 + 12842);
        // The upper point lies below: 0 at 100, -100 at 107
        Replayed y = Checks.loaded("gallery 20 1;spirit s 1;bath a 0;bath b -10;tube s 1 9 999 100;dip 0 a;pass 1;"
                + "mark 0;fill 0 7;dip 0 b;pass 1;mark 0;");
        Checks.is("one below the lower point: 14.28", y.scaleAt(0, 106), -100 + 14);
        Checks.is("one above the lower point: -14.28", y.scaleAt(0, 108), -100 - 14);
        // The steepest: 1700 tenths in one step
        Replayed z = Checks.loaded("gallery 20 1;spirit s 1;bath a -20;bath b 150;tube s 1 9 999 0;dip 0 b;pass 1;"
                + "mark 0;fill 0 1;dip 0 a;pass 1;mark 0;");
        Checks.is("the steepest", z.scaleAt(0, 999), -200 - 1700 * 998);
    }

    private static void readings() {
        Checks.sentence("The reading of a tube is what its scale tells for its height.");
        // 0 at 0, 100 at 10; the length is 10
        Replayed x = Checks.loaded("gallery 20 1;spirit s 1;bath a 0;bath b 10;tube s 1 9 10 0;dip 0 a;pass 1;mark 0;"
                + "fill 0 10;dip 0 b;pass 1;mark 0;");
        Checks.is("at its length", x.reading(0), 100);
        x.topUp(0, 1);
        Checks.is("its free height is above its length", x.reading(0), 100);
        x.setLeaky(0, true);
        x.pass(300);
        Checks.is("at 0", x.reading(0), 0);
    }

    // ---- A minute ----

    private static void minuteNumbers() {
        Checks.sentence("When a minute passes, the minute number (0 at first) increases by 1.");
        Replayed x = Checks.loaded("gallery 20 1;");
        Checks.is("at first", x.minute(), 0);
        x.pass(1);
        Checks.is("one", x.minute(), 1);
        x.pass(300);
        Checks.is("300 more", x.minute(), 301);
        Checks.is("none in the text", Checks.loaded("gallery 20 1;pass 0;").minute(), 0);
        Checks.load(x, "gallery 20 1;pass 300;pass 300;");
        Checks.is("from 0 in each text", x.minute(), 600);
    }

    private static void allTubes() {
        Checks.sentence("Then four things happen for each tube, by number.");
        String text = "gallery 20 1;spirit s 1;bath h 30;bath c 0;";
        for (int i = 0; i < 8; i++) {
            text += "tube s 1 9 10 12;leak " + i + ";dip " + i + " h;";
        }
        Replayed x = Checks.loaded(text + "pass 9;dip 0 c;dip 7 c;thumb 7 1;");
        Checks.is("each one has spilled once", x.spiritLost(0), 16);
        Checks.is("each one leaks", x.pass(1), 8);
        for (int i = 0; i < 8; i++) {
            Checks.is("fill", x.fillOf(i), 9);
            Checks.is("temperature", x.temperatureOf(i), i == 0 ? 0 : i == 7 ? 370 : 300);
        }
        Checks.is("the thumb of the last one", x.thumbedTube(), -1);
    }

    private static void lags() {
        Checks.sentence("First, its temperature changes: let g be the temperature of its surroundings minus its own"
                + " one. If g without sign is less than the lag (1 to 20) of the gallery, the temperature becomes"
                + " that of the surroundings; otherwise it changes by g divided by the lag, truncated.");
        // lag, g, the change after one minute and after two
        int[][] rows = {{1, 10, 10, 10}, {1, 1700, 1700, 1700}, {2, 10, 5, 7}, {9, 10, 1, 2}, {10, 10, 1, 10},
            {11, 10, 10, 10}, {20, 10, 10, 10}, {20, 20, 1, 20}, {20, 30, 1, 2}, {20, 40, 2, 3}, {19, 20, 1, 2},
            {20, 1700, 85, 165}, {20, 0, 0, 0}};
        for (int[] row : rows) {
            change(row, -20, -20 + row[1] / 10, 1);
            change(row, 150, 150 - row[1] / 10, -1);
        }
        Checks.range("gallery 20 ", 1, 20, ";");
    }

    private static void change(int[] row, int from, int to, int sign) {
        Replayed x = Checks.loaded("gallery " + from + " " + row[0] + ";spirit s 1;bath b " + to
                + ";tube s 1 9 10 0;dip 0 b;");
        String what = "lag " + row[0] + " from " + from + " to " + to;
        x.pass(1);
        Checks.is(what + ", one minute", x.temperatureOf(0), 10 * from + sign * row[2]);
        x.pass(1);
        Checks.is(what + ", two minutes", x.temperatureOf(0), 10 * from + sign * row[3]);
    }

    private static void leaks() {
        Checks.sentence("Second, if it is leaky, has a fill greater than 0");
        Replayed x = Checks.loaded("gallery 20 1;spirit s 1;tube s 1 9 10 0;tube s 1 9 10 1;tube s 1 9 10 2;"
                + "tube s 1 9 10 2;leak 0;leak 1;leak 2;");
        Checks.is("pass", x.pass(10), 2);
        Checks.is("fill 0", x.fillOf(0), 0);
        Checks.is("fill 1", x.fillOf(1), 0);
        Checks.is("fill 2", x.fillOf(2), 1);
        Checks.is("not leaky", x.fillOf(3), 2);
        Checks.is("pass", x.pass(10), 1);
        Checks.is("pass", x.pass(300), 0);
        Checks.is("never below 0", x.fillOf(0) + x.fillOf(1) + x.fillOf(2), 0);
    }

    private static void leakMinutes() {
        Checks.sentence("and the minute number is divisible by 10, its fill decreases by 1.");
        Replayed x = Checks.loaded("gallery 20 1;spirit s 1;tube s 1 9 100 50;leak 0;");
        for (int minute = 1; minute <= 31; minute++) {
            Checks.is("minute " + minute, x.pass(1), minute % 10 == 0 ? 1 : 0);
        }
        Checks.is("sealed in minute 9", Checks.loaded("gallery 20 1;spirit s 1;tube s 1 9 100 50;leak 0;pass 9;seal 0;"
                + "pass 1;").fillOf(0), 50);
        Checks.is("leaky in minute 9", Checks.loaded("gallery 20 1;spirit s 1;tube s 1 9 100 50;pass 9;leak 0;"
                + "pass 1;seal 0;pass 50;").fillOf(0), 49);
        Checks.is("300 minutes", Checks.loaded("gallery 20 1;spirit s 1;tube s 1 9 100 50;leak 0;pass 300;").fillOf(0),
                20);
    }

    private static void spills() {
        Checks.sentence("Third, if its free height is greater than its length, it spills: its fill decreases by the"
                + " difference, but not below 0.");
        // length, fill, fill after a minute: the free height is the fill + 50
        int[][] rows = {{100, 50, 50}, {100, 51, 50}, {100, 999, 50}, {50, 50, 0}, {50, 1, 0}, {50, 0, 0}, {49, 0, 0},
            {49, 1, 0}, {49, 50, 0}, {51, 50, 1}, {10, 30, 0}, {10, 999, 0}};
        for (int[] row : rows) {
            Replayed x = Checks.loaded(RISING + "tube s 20 2 " + row[0] + " " + row[1] + ";");
            Checks.is("spilled of " + row[1] + " in " + row[0], x.pass(1), row[1] - row[2]);
            Checks.is("fill of " + row[1] + " in " + row[0], x.fillOf(0), row[2]);
            Checks.is("spilled again", x.pass(1), 0);
        }
    }

    private static void spillsAfterWarming() {
        Checks.sentence("First, its temperature changes");
        // 100 + 30 in the cold bath, 100 + 130 in the hot one
        Replayed x = Checks.loaded(RISING + "tube s 20 2 150 100;dip 0 h;");
        Checks.is("in the minute in which it is warmed", x.pass(1), 80);
        Replayed y = Checks.loaded(RISING + "tube s 20 2 130 100;dip 0 c;");
        Checks.is("not in the minute in which it is cooled", y.pass(1), 0);
    }

    private static void spillsAfterLeaks() {
        Checks.sentence("Third, if its free height is greater than its length, it spills");
        Replayed x = Checks.loaded(RISING + "tube s 20 2 100 50;leak 0;pass 9;fill 0 1;");
        Checks.is("what has leaked does not spill", x.pass(1), 1);
        Checks.is("fill", x.fillOf(0), 50);
        Replayed y = Checks.loaded(RISING + "tube s 20 2 10 0;leak 0;pass 9;fill 0 1;");
        Checks.is("the last one leaks", y.minutesUntilSpill(0), -1);
        Checks.is("and is lost once", y.pass(1), 1);
    }

    private static void thumbMinutes() {
        Checks.sentence("Fourth, if the thumb lies on it, one minute of the thumb is over; when none is left, the"
                + " thumb is taken away.");
        for (int minutes : new int[] {1, 2, 60}) {
            Replayed x = Checks.loaded(EVEN);
            x.layThumb(1, minutes);
            for (int left = minutes; left > 0; left--) {
                Checks.is("left", x.thumbLeft(), left);
                Checks.is("lies", x.thumbedTube(), 1);
                x.pass(1);
            }
            Checks.is("none left", x.thumbLeft(), 0);
            Checks.is("taken away", x.thumbedTube(), -1);
            x.pass(1);
            Checks.is("none left", x.thumbLeft(), 0);
            Checks.is("taken away", x.thumbedTube(), -1);
        }
        Replayed y = Checks.loaded(EVEN + "thumb 0 60;");
        y.pass(300);
        Checks.is("taken away within a longer time", y.thumbedTube(), -1);
    }

    private static void thumbLast() {
        Checks.sentence("Fourth, if the thumb lies on it, one minute of the thumb is over");
        Replayed x = Checks.loaded(EVEN + "dip 0 h;thumb 0 1;");
        x.pass(1);
        Checks.is("in the last minute of the thumb", x.temperatureOf(0), 370);
        x.pass(1);
        Checks.is("in the minute behind it", x.temperatureOf(0), 1000);
    }
}
