/** Promises 25 to 32, 34 to 36, 38, 44, 45, 47, 48, 54, 55, 64 and 65: points, scales and the output text. */
public final class ScalesTest {
    // The spirit does not rise within the bore of 9: a height is a fill, and a lag of 1 settles in a minute.
    private static final String EVEN = "gallery 20 1;spirit wine 1;bath a -10;bath b 100;bath m 50;bath n 50;"
            + "tube wine 1 9 999 5;";
    private static final String TWO_POINTS = EVEN + "dip 0 a;pass 1;mark 0;fill 0 13;dip 0 b;pass 1;mark 0;";
    private static final String THREE_POINTS = TWO_POINTS + "fill 0 2;dip 0 m;pass 1;mark 0;";

    public static void main(String[] args) {
        promises25to27points();
        promise28hasScale();
        promises29and30reading();
        promise31scaleAt();
        scaleOfPointsInAnyOrder();
        promise32fitError();
        promise34dipRefusal();
        promise35markRefusal();
        promise54mark();
        promise55erasePoint();
        promises36and38and45comparisons();
        promise45worstFitOfThree();
        promise44disagreement();
        promise47bathsToMark();
        promise48missedPoints();
        promise64printTube();
        promise65outputByte();
        Checks.finish("ScalesTest");
    }

    private static void promises25to27points() {
        Replayed x = Checks.loaded(THREE_POINTS);
        int[] degrees = {-10, 100, 50};
        int[] heights = {5, 18, 20};
        Checks.is("points", x.pointCount(0), 3);
        Checks.is("no points", Checks.loaded(EVEN).pointCount(0), 0);
        Checks.sentence("Returns the degrees of the point.");
        for (int i = 0; i < 3; i++) {
            Checks.is("degrees", x.pointDegrees(0, i), degrees[i]);
        }
        Checks.sentence("Returns the height of the point.");
        for (int i = 0; i < 3; i++) {
            Checks.is("height", x.pointHeight(0, i), heights[i]);
        }
        Checks.sentence("point: number of a point, from 0");
        for (int point : new int[] {-1, 3, 5, 6, Integer.MIN_VALUE, Integer.MAX_VALUE}) {
            Checks.refuses("pointDegrees " + point, x, Checks.ELEMENT, () -> x.pointDegrees(0, point));
            Checks.refuses("pointHeight " + point, x, Checks.ELEMENT, () -> x.pointHeight(0, point));
            Checks.refuses("pointDegrees of no tube", x, Checks.INDEX, () -> x.pointDegrees(1, point));
            Checks.refuses("pointHeight of no tube", x, Checks.INDEX, () -> x.pointHeight(-1, point));
        }
        Checks.refuses("pointCount", x, Checks.INDEX, () -> x.pointCount(1));
        Checks.refuses("pointCount", x, Checks.INDEX, () -> x.pointCount(-1));
    }

    private static void promise28hasScale() {
        Replayed x = Checks.loaded(EVEN + "dip 0 a;pass 1;");
        Checks.sentence("Returns whether it has a scale.");
        Checks.is("no point", x.hasScale(0), false);
        x.mark(0);
        Checks.is("one point", x.hasScale(0), false);
        Checks.is("two points", Checks.loaded(TWO_POINTS).hasScale(0), true);
        Checks.refuses("hasScale", x, Checks.INDEX, () -> x.hasScale(1) ? 1 : 0);
        Checks.refuses("hasScale", x, Checks.INDEX, () -> x.hasScale(-1) ? 1 : 0);
    }

    private static void promises29and30reading() {
        Replayed x = Checks.loaded(THREE_POINTS);
        Checks.sentence("Returns its reading in tenths.");
        // -100 + 1100 * 15 / 13
        Checks.is("reading", x.reading(0), 1169);
        Checks.sentence("Returns its reading minus its temperature, in tenths.");
        Checks.is("reading error", x.readingError(0), 669);
        Replayed y = Checks.loaded(EVEN + "tube wine 1 9 10 50;dip 1 a;pass 1;mark 1;");
        Checks.refuses("reading with one point", y, Checks.ELEMENT, () -> y.reading(1));
        Checks.refuses("reading with no point", y, Checks.ELEMENT, () -> y.reading(0));
        Checks.refuses("readingError with one point", y, Checks.ELEMENT, () -> y.readingError(1));
        Checks.refuses("readingError with no point", y, Checks.ELEMENT, () -> y.readingError(0));
        Checks.refuses("reading", y, Checks.INDEX, () -> y.reading(2));
        Checks.refuses("reading", y, Checks.INDEX, () -> y.reading(-1));
        Checks.refuses("readingError", y, Checks.INDEX, () -> y.readingError(2));
        Checks.refuses("readingError", y, Checks.INDEX, () -> y.readingError(-1));
        Checks.sentence("Returns its reading minus its temperature, in tenths.");
        Replayed z = Checks.loaded("gallery 20 1;spirit s 1;bath a 0;bath b 100;tube s 1 9 20 10;dip 0 a;"
                + "pass 1;mark 0;fill 0 5;dip 0 b;pass 1;mark 0;room 90;lift 0;pass 1;");
        Checks.is("error below 0 is none", z.readingError(0), 100);
        z.setRoom(120);
        z.pass(1);
        Checks.is("error with a sign", z.readingError(0), -200);
        z.topUp(0, 100);
        Checks.is("the height is read, not the free height", z.reading(0), 2000);
    }

    private static void promise31scaleAt() {
        Replayed x = Checks.loaded(TWO_POINTS);
        Checks.sentence("Returns what its scale tells for this height, in tenths.");
        Checks.is("lower point", x.scaleAt(0, 5), -100);
        Checks.is("upper point", x.scaleAt(0, 18), 1000);
        Checks.is("the quotient is truncated, not the sum", x.scaleAt(0, 6), -100 + 84);
        Checks.is("truncated, not rounded down", x.scaleAt(0, 4), -100 - 84);
        Checks.is("least", x.scaleAt(0, 0), -100 - 423);
        Checks.is("greatest", x.scaleAt(0, 999), -100 + 84107);
        Replayed y = Checks.loaded(EVEN);
        Checks.sentence("height: 0 to 999");
        for (int height : new int[] {-1, 1000, Integer.MIN_VALUE, Integer.MAX_VALUE}) {
            Checks.refuses("scaleAt " + height, x, Checks.ARGUMENT, () -> x.scaleAt(0, height));
            Checks.refuses("scaleAt without a scale", y, Checks.ARGUMENT, () -> y.scaleAt(0, height));
            Checks.refuses("scaleAt of no tube", x, Checks.INDEX, () -> x.scaleAt(1, height));
        }
        Checks.refuses("scaleAt without a scale", y, Checks.ELEMENT, () -> y.scaleAt(0, 5));
        Checks.refuses("scaleAt of no tube", y, Checks.INDEX, () -> y.scaleAt(-1, 5));
    }

    private static void scaleOfPointsInAnyOrder() {
        // 50 first, then 100, then -10: the upper point is the lowest.
        Replayed x = Checks.loaded(EVEN + "fill 0 15;dip 0 m;pass 1;mark 0;lift 0;fill 0 1;dip 0 b;pass 1;"
                + "mark 0;fill 0 16;dip 0 a;pass 1;mark 0;");
        Checks.is("upper point", x.scaleAt(0, 21), 1000);
        Checks.is("lower point", x.scaleAt(0, 37), -100);
        // -100 + 1100 * (20 - 37) / (21 - 37)
        Checks.is("between", x.scaleAt(0, 20), -100 + 1168);
        Checks.is("beyond", x.scaleAt(0, 38), -100 - 68);
        Checks.is("fit error", x.fitError(0), 568);
        // Without the point of 100 degrees that of 50 is the upper one: -100 + 600 * (h - 37) / (20 - 37)
        x.erasePoint(0, 1);
        Checks.is("upper point", x.scaleAt(0, 20), 500);
        Checks.is("lower point", x.scaleAt(0, 37), -100);
        Checks.is("between", x.scaleAt(0, 21), -100 + 564);
        Checks.is("fit error of two points", x.fitError(0), 0);
        // The last point is erased, and it is the lower one, then the upper one.
        x.dip(0, 1);
        x.pass(1);
        x.topUp(0, 10);
        x.mark(0);
        Checks.is("marked behind the others", x.pointDegrees(0, 2), 100);
        x.erasePoint(0, 2);
        Checks.is("upper point", x.scaleAt(0, 20), 500);
        x.topUp(0, 1);
        x.mark(0);
        x.erasePoint(0, 1);
        x.dip(0, 0);
        x.pass(1);
        x.topUp(0, 1);
        x.mark(0);
        x.erasePoint(0, 2);
        Checks.is("lower point", x.scaleAt(0, 20), 500);
        Checks.is("upper point", x.scaleAt(0, 48), 1000);
        // The heights decrease.
        Replayed y = Checks.loaded(EVEN + "dip 0 b;pass 1;mark 0;fill 0 17;dip 0 a;pass 1;mark 0;");
        Checks.is("upper point", y.scaleAt(0, 5), 1000);
        Checks.is("lower point", y.scaleAt(0, 22), -100);
        Checks.is("between", y.scaleAt(0, 20), -100 + 129);
        Checks.is("beyond", y.scaleAt(0, 30), -100 - 517);
        Checks.is("missed", y.missedPoints(), 0);
    }

    private static void promise32fitError() {
        Replayed x = Checks.loaded(THREE_POINTS);
        Checks.is("two points fit", Checks.loaded(TWO_POINTS).fitError(0), 0);
        // -100 + 1269 against 500
        Checks.is("three points", x.fitError(0), 669);
        Replayed y = Checks.loaded("gallery 20 1;spirit s 1;bath a 0;bath m 50;bath n 60;bath b 100;"
                + "tube s 1 9 999 0;dip 0 a;pass 1;mark 0;fill 0 10;dip 0 m;pass 1;mark 0;fill 0 20;dip 0 n;pass 1;"
                + "mark 0;fill 0 10;dip 0 b;pass 1;mark 0;");
        // 250 against 500, 750 against 600
        Checks.is("the greatest of two", y.fitError(0), 250);
        y.erasePoint(0, 1);
        Checks.is("the other", y.fitError(0), 150);
        Replayed z = Checks.loaded(EVEN);
        Checks.refuses("fitError", z, Checks.ELEMENT, () -> z.fitError(0));
        Checks.refuses("fitError", z, Checks.INDEX, () -> z.fitError(1));
        Checks.refuses("fitError", z, Checks.INDEX, () -> z.fitError(-1));
    }

    private static void promise34dipRefusal() {
        Replayed x = Checks.loaded(EVEN + "tube wine 1 9 999 5;dip 0 b;");
        Checks.is("in this bath", x.dipRefusal(0, 1), 1);
        Checks.is("in another bath", x.dipRefusal(0, 0), 0);
        Checks.is("in the room", x.dipRefusal(1, 0), 0);
        x.layThumb(0, 1);
        Checks.is("in this bath, with the thumb", x.dipRefusal(0, 1), 1);
        Checks.is("in another bath, with the thumb", x.dipRefusal(0, 2), 2);
        Checks.is("the thumb lies on another", x.dipRefusal(1, 1), 0);
        for (int none : new int[] {-1, 4, Integer.MIN_VALUE, Integer.MAX_VALUE}) {
            Checks.refuses("dipRefusal of no tube", x, Checks.INDEX, () -> x.dipRefusal(none, 0));
            Checks.refuses("dipRefusal of no bath", x, Checks.INDEX, () -> x.dipRefusal(0, none));
            Checks.refuses("dip of no tube", x, Checks.INDEX, () -> x.dip(none, 0));
            Checks.refuses("dip of no bath", x, Checks.INDEX, () -> x.dip(0, none));
        }
    }

    private static void promise35markRefusal() {
        Replayed x = Checks.loaded(TWO_POINTS);
        refusal("in the room", Checks.loaded(EVEN), 1);
        refusal("in the room, with the thumb", Checks.loaded(EVEN + "thumb 0 5;pass 1;"), 1);
        refusal("not settled", Checks.loaded(EVEN + "dip 0 a;"), 2);
        refusal("settled under the thumb", Checks.loaded(EVEN + "dip 0 a;thumb 0 5;pass 3;"), 2);
        refusal("settled in the bath, with the thumb", Checks.loaded("gallery 37 1;spirit s 1;bath b 37;"
                + "tube s 1 9 10 0;dip 0 b;thumb 0 1;"), 2);
        refusal("not settled and marked", Checks.loaded(TWO_POINTS + "room 30;lift 0;pass 1;dip 0 b;"), 2);
        refusal("degrees and height", x, 3);
        x.topUp(0, 1);
        refusal("degrees", x, 3);
        x.dip(0, 2);
        x.pass(1);
        Checks.is("another height", x.markRefusal(0), 0);
        refusal("height of the latest point", Checks.loaded(TWO_POINTS + "dip 0 m;pass 1;"), 4);
        refusal("height of the first point",
                Checks.loaded(EVEN + "dip 0 a;pass 1;mark 0;dip 0 b;pass 1;"), 4);
        refusal("degrees in another bath", Checks.loaded(THREE_POINTS + "fill 0 1;dip 0 n;"), 3);
        Checks.refuses("markRefusal", x, Checks.INDEX, () -> x.markRefusal(1));
        Checks.refuses("markRefusal", x, Checks.INDEX, () -> x.markRefusal(-1));
        Checks.refuses("mark", x, Checks.INDEX, () -> x.mark(1));
        Checks.refuses("mark", x, Checks.INDEX, () -> x.mark(-1));
    }

    private static void refusal(String what, Replayed x, int reason) {
        Checks.is(what, x.markRefusal(0), reason);
        Checks.refuses(what + ": mark", x, Checks.STATE, () -> x.mark(0));
    }

    private static void promise54mark() {
        Replayed x = Checks.loaded("gallery 20 1;spirit s 10;bath b 100;bath c 0;tube s 20 2 100 5;"
                + "tube s 1 9 999 3;dip 0 b;dip 1 b;pass 1;");
        Checks.sentence("A point is marked.");
        Checks.is("refusal", x.markRefusal(0), 0);
        Checks.sentence("Returns the number of its points afterwards.");
        Checks.is("first", x.mark(0), 1);
        Checks.is("first of another", x.mark(1), 1);
        Checks.is("height at the end of the tube", x.pointHeight(0, 0), 100);
        x.dip(0, 1);
        x.pass(1);
        Checks.is("second", x.mark(0), 2);
        Checks.is("height", x.pointHeight(0, 1), 30);
        Checks.is("degrees", x.pointDegrees(0, 1), 0);
        Checks.is("the other one has one", x.pointCount(1), 1);
    }

    private static void promise55erasePoint() {
        Replayed x = Checks.loaded(THREE_POINTS);
        Checks.sentence("Returns the height of the point.");
        Checks.is("erase", x.erasePoint(0, 1), 18);
        Checks.is("points", x.pointCount(0), 2);
        Checks.is("the first stays", x.pointHeight(0, 0), 5);
        Checks.is("the last moves", x.pointHeight(0, 1), 20);
        Checks.is("the last moves", x.pointDegrees(0, 1), 50);
        Checks.refuses("erase beyond", x, Checks.ELEMENT, () -> x.erasePoint(0, 2));
        Checks.is("erase", x.erasePoint(0, 0), 5);
        Checks.is("erase", x.erasePoint(0, 0), 20);
        for (int point : new int[] {-1, 0, 6, Integer.MIN_VALUE, Integer.MAX_VALUE}) {
            Checks.refuses("erase of none", x, Checks.ELEMENT, () -> x.erasePoint(0, point));
            Checks.refuses("erase of no tube", x, Checks.INDEX, () -> x.erasePoint(1, point));
        }
        Checks.refuses("erase of no tube", x, Checks.INDEX, () -> x.erasePoint(-1, 0));
        Checks.is("it can be marked again", x.mark(0), 1);
    }

    private static void promises36and38and45comparisons() {
        String two = "tube wine 1 9 999 5;dip 1 a;pass 1;mark 1;fill 1 13;dip 1 b;pass 1;mark 1;";
        Replayed none = Checks.loaded(EVEN + "dip 0 a;pass 1;mark 0;");
        Checks.is("best of none", none.bestTube(), -1);
        Checks.is("worst of none", none.worstFit(), -1);
        Checks.is("spread of none", none.spread(), 0);
        Replayed x = Checks.loaded(TWO_POINTS + two + "lift 0;lift 1;");
        Checks.is("the first of two", x.bestTube(), 0);
        Checks.is("the first of two", x.worstFit(), 0);
        Checks.is("spread of equal ones", x.spread(), 0);
        // The first was in b when both minutes of the second passed: both read 1000 and have 1000.
        x.topUp(0, 1);
        Checks.is("the other is better", x.bestTube(), 1);
        Checks.is("spread", x.spread(), 84);
        x.topUp(1, 2);
        Checks.is("the first is better", x.bestTube(), 0);
        Checks.is("spread", x.spread(), 169 - 84);
        x.dip(1, 2);
        x.pass(1);
        x.mark(1);
        Checks.is("the second has a misfit", x.worstFit(), 1);
        Replayed one = Checks.loaded(EVEN + two + "room 0;lift 1;pass 1;");
        Checks.is("only the second has a scale", one.bestTube(), 1);
        Checks.is("only the second has a scale", one.worstFit(), 1);
        Checks.is("spread of one", one.spread(), 0);
        Replayed low = Checks.loaded("gallery 20 1;spirit s 1;bath a 0;bath b 100;tube s 1 9 999 50;"
                + "tube s 1 9 999 50;dip 0 a;dip 1 a;pass 1;mark 0;mark 1;fill 0 5;fill 1 4;dip 0 b;dip 1 b;pass 1;"
                + "mark 0;mark 1;leak 0;leak 1;pass 120;");
        // 43 and 42 are read as 1000 * -7 / 5 and 1000 * -8 / 4; the temperature is 1000.
        Checks.is("reading below 0", low.reading(0), -1400);
        Checks.is("spread of readings below 0", low.spread(), 600);
        Checks.is("best", low.bestTube(), 0);
        // -600 and 500, both at 1000
        Replayed signs = Checks.loaded("gallery 20 1;spirit s 1;bath a 0;bath b 100;tube s 1 9 999 50;"
                + "tube s 1 9 999 50;dip 0 a;dip 1 a;pass 1;mark 0;mark 1;fill 0 10;fill 1 10;dip 0 b;dip 1 b;pass 1;"
                + "mark 0;mark 1;leak 0;leak 1;pass 50;seal 1;pass 110;");
        Checks.is("reading", signs.reading(0), -600);
        Checks.is("reading", signs.reading(1), 500);
        Checks.is("best", signs.bestTube(), 1);
        Checks.is("spread", signs.spread(), 1100);
    }

    private static void promise45worstFitOfThree() {
        String text = "gallery 50 1;spirit s 1;bath a 0;bath b 100;bath m 50;";
        for (int tube = 0; tube < 3; tube++) {
            text += "tube s 1 9 999 0;";
        }
        Replayed x = Checks.loaded(text);
        int[] middles = {70, 90, 80};
        for (int tube = 0; tube < 3; tube++) {
            x.dip(tube, 0);
            x.pass(1);
            x.mark(tube);
            x.topUp(tube, middles[tube]);
            x.dip(tube, 2);
            x.pass(1);
            x.mark(tube);
            x.topUp(tube, 100 - middles[tube]);
            x.dip(tube, 1);
            x.pass(1);
            x.mark(tube);
            Checks.is("fit error", x.fitError(tube), 10 * middles[tube] - 500);
        }
        Checks.is("neither the first nor the last", x.worstFit(), 1);
        x.erasePoint(1, 1);
        Checks.is("the last", x.worstFit(), 2);
    }

    private static void promise44disagreement() {
        Replayed x = Checks.loaded(TWO_POINTS + "tube wine 1 9 999 5;dip 1 a;pass 1;mark 1;fill 1 13;"
                + "dip 1 b;pass 1;mark 1;fill 1 1;tube wine 1 9 999 5;");
        Checks.is("disagreement", x.disagreement(0, 1), 84);
        Checks.is("without sign", x.disagreement(1, 0), 84);
        Checks.is("with itself", x.disagreement(1, 1), 0);
        Checks.refuses("no scale", x, Checks.ELEMENT, () -> x.disagreement(0, 2));
        Checks.refuses("no scale", x, Checks.ELEMENT, () -> x.disagreement(2, 0));
        Checks.refuses("no scale", x, Checks.ELEMENT, () -> x.disagreement(2, 2));
        Checks.sentence("other: number of a tube");
        for (int none : new int[] {-1, 3, Integer.MIN_VALUE, Integer.MAX_VALUE}) {
            Checks.refuses("no tube", x, Checks.INDEX, () -> x.disagreement(0, none));
            Checks.refuses("no tube", x, Checks.INDEX, () -> x.disagreement(none, 0));
            Checks.refuses("no tube and no scale", x, Checks.INDEX, () -> x.disagreement(2, none));
        }
    }

    private static void promise47bathsToMark() {
        Checks.is("no points", Checks.loaded(EVEN).bathsToMark(0), 4);
        Checks.is("two points", Checks.loaded(TWO_POINTS).bathsToMark(0), 2);
        Checks.is("two baths with the same degrees", Checks.loaded(THREE_POINTS).bathsToMark(0), 0);
        Replayed x = Checks.loaded("gallery 20 4;spirit s 1;tube s 1 1 10 0;");
        Checks.is("no baths", x.bathsToMark(0), 0);
        Checks.refuses("bathsToMark", x, Checks.INDEX, () -> x.bathsToMark(1));
        Checks.refuses("bathsToMark", x, Checks.INDEX, () -> x.bathsToMark(-1));
    }

    private static void promise48missedPoints() {
        Checks.sentence("Checks the scales.");
        Checks.is("no tubes", Checks.loaded("gallery 20 4;").missedPoints(), 0);
        Checks.is("no scale", Checks.loaded(EVEN).missedPoints(), 0);
        Checks.sentence("Returns the number of lower and upper points of scales for whose height the scale does not"
                + " tell ten times their degrees");
        Checks.is("two points", Checks.loaded(TWO_POINTS).missedPoints(), 0);
        Checks.is("a third one with a misfit", Checks.loaded(THREE_POINTS).missedPoints(), 0);
    }

    private static void promise64printTube() {
        Replayed x = Checks.loaded(THREE_POINTS + "spirit u 1;tube u 1 9 10 123;"
                + "tube wine 1 9 999 999;thumb 1 5;");
        Checks.is("scale", Checks.printed(x, 0), "wine 20/999 @1169");
        Checks.is("thumb", Checks.printed(x, 1), "u 10/10*");
        Checks.is("plain", Checks.printed(x, 2), "wine 999/999");
        x.layThumb(0, 5);
        Checks.is("scale and thumb", Checks.printed(x, 0), "wine 20/999 @1169*");
        Replayed y = Checks.loaded(EVEN + "fill 0 5;dip 0 a;pass 1;mark 0;fill 0 2;dip 0 b;pass 1;mark 0;"
                + "leak 0;pass 35;");
        // 12 - 3 is read as -100 + 1100 * -1 / 2
        Checks.is("minus sign", Checks.printed(y, 0), "wine 9/999 @-650");
        Checks.is("height 0", Checks.printed(Checks.loaded("gallery 20 4;spirit abc 1;tube abc 1 9 10 0;"), 0),
                "abc 0/10");
        Checks.is("reading 0", Checks.printed(Checks.loaded("gallery 20 1;spirit s 1;bath a 0;bath b 9;"
                + "tube s 1 9 10 7;dip 0 b;pass 1;mark 0;fill 0 1;dip 0 a;pass 1;mark 0;"), 0), "s 8/10 @0");
        for (int tube : new int[] {-1, 1, 8, Integer.MIN_VALUE, Integer.MAX_VALUE}) {
            Checks.refuses("printTube", y, Checks.INDEX, () -> y.printTube(tube));
        }
    }

    private static void promise65outputByte() {
        Replayed x = Checks.loaded(EVEN);
        Checks.refuses("empty", x, Checks.ELEMENT, () -> x.outputByte(0));
        Checks.is("length", x.printTube(0), 10);
        Checks.sentence("Returns the byte.");
        Checks.is("first", x.outputByte(0), 'w');
        Checks.is("last", x.outputByte(9), '9');
        for (int index : new int[] {-1, 10, Integer.MIN_VALUE, Integer.MAX_VALUE}) {
            Checks.refuses("outputByte", x, Checks.ELEMENT, () -> x.outputByte(index));
        }
        Checks.load(x, "gallery 20 4;spirit s 1;tube s 1 9 10 7;");
        Checks.is("a shorter text", x.printTube(0), 6);
        Checks.refuses("what was longer", x, Checks.ELEMENT, () -> x.outputByte(6));
    }
}
