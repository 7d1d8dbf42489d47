import java.util.function.ToIntBiFunction;

/** Promises 2 to 6 and the setup text: the input buffer, every statement's form, ranges and error codes. */
public final class SetupTextTest {
    private static final int BLANKS = 0x20202020;
    private static final String START = "gallery 20 4;spirit s 40;tube s 50 1 99 9;bath b 150;";

    public static void main(String[] args) {
        promise2append();
        promise2appendedBytes();
        promise2parameters();
        promise3truncate();
        promise4load();
        promises5and6gallery();
        promises5and6tokens();
        promises5and6behindTheEnd();
        promises5and6names();
        promises5and6tubes();
        promises5and6deeds();
        promises5and6refusals();
        statementsDoWhatTheMethodsDo();
        statementsAreCarriedOutInOrder();
        Checks.finish("SetupTextTest");
    }

    private static void promise2append() {
        Replayed x = new Replayed();
        int spaces = 0x20202020;
        for (int i = 1; i <= 30; i++) {
            Checks.is("append", x.append(spaces, spaces, spaces, spaces, spaces), 20 * i);
        }
        Checks.refuses("append to 600 bytes", x, Checks.STATE, () -> x.append(0, 0, 0, 0, 0));
        Checks.is("the length stays 600", x.truncate(600), 600);
        x.truncate(581);
        Checks.refuses("append to 581 bytes", x, Checks.STATE, () -> x.append(0, 0, 0, 0, 0));
        x.truncate(580);
        Checks.is("append to 580 bytes", x.append(spaces, spaces, spaces, spaces, spaces), 600);
        x.load();
        Checks.is("600 spaces", x.errorOffset(), 600);
    }

    private static void promise2appendedBytes() {
        Replayed x = new Replayed();
        // "gall" "ery " "20 4" ";spi" "rit " and "wxyz" " 7;t" "ube " "wxyz" " 1 1" " 10 " "3;" behind it
        Checks.is("append", x.append(0x67616c6c, 0x65727920, 0x32302034, 0x3b737069, 0x72697420), 20);
        Checks.is("append", x.append(0x7778797a, 0x20373b74, 0x75626520, 0x7778797a, 0x20312031), 40);
        Checks.is("append", x.append(0x20313020, 0x333b2020, 0x20202020, 0x20202020, 0x20202020), 60);
        Checks.is("load", x.load(), 1);
        Checks.is("print", Checks.printed(x, 0), "wxyz 6/10");
        x.append(0x67616c6c, 0x65727920, 0x32302034, 0x3bffffff, -1);
        Checks.is("bytes above 127", x.load(), ThermoscopeGallery.PARSE_ERROR);
        Checks.is("bytes above 127: code", x.errorCode(), 1);
        Checks.is("bytes above 127: offset", x.errorOffset(), 13);
    }

    private static void promise2parameters() {
        Checks.sentence("a: first four bytes");
        only(0, (x, four) -> x.append(four, BLANKS, BLANKS, BLANKS, BLANKS));
        Checks.sentence("b: next four bytes");
        only(4, (x, four) -> x.append(BLANKS, four, BLANKS, BLANKS, BLANKS));
        Checks.sentence("c: next four bytes");
        only(8, (x, four) -> x.append(BLANKS, BLANKS, four, BLANKS, BLANKS));
        Checks.sentence("d: next four bytes");
        only(12, (x, four) -> x.append(BLANKS, BLANKS, BLANKS, four, BLANKS));
        Checks.sentence("e: last four bytes");
        only(16, (x, four) -> x.append(BLANKS, BLANKS, BLANKS, BLANKS, four));
    }

    /** Among blanks the four letters are a bath's name, and the next text goes on behind them. */
    private static void only(int place, ToIntBiFunction<Replayed, Integer> append) {
        String letters = "abcd";
        Replayed x = new Replayed();
        String text = "gallery 20 1;spirit s 1;tube s 1 9 10 0;bath abce 1;bath ";
        Checks.put(x, text);
        Checks.is("length", append.applyAsInt(x, Checks.four(letters, 0)), text.length() + 20);
        Checks.put(x, "2;dip 0 " + letters + ";");
        Checks.is("load", x.load(), 1);
        Checks.is("the bath of that name", x.bathOf(0), 1);
        Replayed y = new Replayed();
        append.applyAsInt(y, Checks.four(letters, 0));
        y.load();
        Checks.is("place", y.errorOffset(), place);
    }

    private static void promise3truncate() {
        Replayed x = new Replayed();
        Checks.sentence("Shortens the input buffer.");
        Checks.is("truncate nothing", x.truncate(0), 0);
        Checks.refuses("truncate to 1 of 0", x, Checks.ARGUMENT, () -> x.truncate(1));
        x.append(0, 0, 0, 0, 0);
        Checks.refuses("truncate to 21 of 20", x, Checks.ARGUMENT, () -> x.truncate(21));
        Checks.refuses("truncate to -1", x, Checks.ARGUMENT, () -> x.truncate(-1));
        Checks.refuses("truncate to the least", x, Checks.ARGUMENT, () -> x.truncate(Integer.MIN_VALUE));
        Checks.sentence("length: new length");
        Checks.is("truncate to 20", x.truncate(20), 20);
        Checks.sentence("Returns the new length.");
        Checks.is("truncate to 7", x.truncate(7), 7);
        Checks.refuses("truncate to 8 of 7", x, Checks.ARGUMENT, () -> x.truncate(8));
        Checks.is("append behind it", x.append(0, 0, 0, 0, 0), 27);
        x.truncate(0);
        Checks.put(x, "gallery 20 4;garbage");
        x.truncate(13);
        Checks.is("what was cut does not count", x.load(), 0);
    }

    private static void promise4load() {
        Replayed x = new Replayed();
        x.printTube(0);
        String output = Checks.output(x);
        x.save(1);
        x.setRoom(30);
        String before = Checks.state(x);
        Checks.is("load with an error", Checks.load(x, START + "duke;"), -7);
        Checks.is("PARSE_ERROR", ThermoscopeGallery.PARSE_ERROR, -7);
        Checks.is("an error leaves the state", Checks.state(x), before);
        Checks.refuses("an error empties the buffer", x, Checks.ARGUMENT, () -> x.truncate(1));
        Checks.is("load", Checks.load(x, START + "tube s 1 1 10 0;"), 2);
        Checks.refuses("load empties the buffer", x, Checks.ARGUMENT, () -> x.truncate(1));
        Checks.is("minute", x.minute(), 0);
        Checks.is("no thumb", x.thumbedTube(), -1);
        Checks.is("load keeps the output text", Checks.output(x), output);
        Checks.is("load can be undone, an error can't", x.undo(), 1);
        Checks.is("undone load", Checks.state(x), before);
        Checks.is("earlier changes are kept", x.undo(), 0);
        Checks.is("load keeps saved states", x.restore(1), 82);
        Checks.is("no tubes", Checks.load(x, "gallery 20 4;"), 0);
        Checks.is("most tubes", Checks.load(x, START + tubes(7)), 8);
    }

    private static void promises5and6gallery() {
        Replayed x = new Replayed();
        Checks.is("code at first", x.errorCode(), 0);
        Checks.is("offset at first", x.errorOffset(), -1);
        Checks.error("^", 1);
        Checks.error("   ^", 1);
        Checks.error("\n^;", 1);
        Checks.error("gallery^", 1);
        Checks.error("gallery ^", 1);
        Checks.error("gallery 20^", 1);
        Checks.error("gallery 20 4^", 1);
        Checks.error("gallery -^", 1);
        Checks.error("gallery^;", 1);
        Checks.error("gallery ^x 4;", 1);
        Checks.error("gallery 20 ^x;", 1);
        Checks.error("gallery 20 ^-4;", 1);
        Checks.error("gallery -^-5 4;", 1);
        Checks.error("gallery 20 4 ^4;", 1);
        Checks.error("gallery 20 4^room 5;", 1);
        Checks.error("^spirit s 4;", 1);
        Checks.error("^galler 20 4;", 1);
        Checks.error("^galleryy 20 4;", 1);
        Checks.error("^gallerx 20 4;", 1);
        Checks.error("^hallery 20 4;", 1);
        Checks.error("^20 4;", 1);
        Checks.error("^;", 1);
        Checks.error("gallery 20 4;^gallery 20 4;", 1);
        Checks.error("gallery 20 4;^;", 1);
        Checks.error("gallery ^151 4;", 2);
        Checks.error("gallery -^21 4;", 2);
        Checks.error("gallery - ^151 4;", 2);
        Checks.error("gallery 20 ^0;", 2);
        Checks.error("gallery 20 ^21;", 2);
        room("gallery 150 20;", 150);
        room("gallery 0 1;", 0);
        room("gallery -20 20;", -20);
        room("gallery - \n 7 20;", -7);
        room("gallery -0 20;", 0);
    }

    private static void promises5and6tokens() {
        Checks.error("gallery^\t20 4;", 1);
        Checks.error("gallery 20 4;^\r\n", 1);
        Checks.error("gallery 20 4;^\0", 1);
        Checks.error("^Gallery 20 4;", 1);
        Checks.error("gallery 2^.5 4;", 1);
        Checks.error("gallery ^+2 4;", 1);
        Checks.error("gallery 20 4^,", 1);
        Checks.error("gallery 20 4^:", 1);
        Checks.error("gallery 20 4;^`", 1);
        Checks.error("gallery 20 4;^{", 1);
        Checks.error("gallery 20 4;room 2^/", 1);
        Checks.error("gallery 20 4;^\u00e9", 1);
        Checks.error("gallery ^99999999999999999999999999 4;", 2);
        Checks.error("gallery ^4294967316 4;", 2);
        Checks.error("gallery ^18446744073709551636 4;", 2);
        Checks.error("gallery 20 ^1000004;", 2);
        room("gallery 00000000000000000000000000000020 0004;", 20);
        room("gallery20 4;room-5;", -5);
        room("gallery\n20\n4\n;\n\nroom 7 ; ", 7);
        room("  gallery 20 4;spirit s40;tube s1 1 10 0;leak0;", 20);
        StringBuilder full = new StringBuilder("gallery 20 4;");
        while (full.length() < 592) {
            full.append(' ');
        }
        room(full + "room 19;", 19);
    }

    /** Bytes that were cut off, or that would stand behind the 600th, belong to no token. */
    private static void promises5and6behindTheEnd() {
        cut("gallery 20 4;bath abcde", 22);
        cut("gallery 20 4;room 151", 20);
        cut("gallery 20 4;bath b 5;", 20);
        StringBuilder full = new StringBuilder("gallery 20 4;");
        while (full.length() < 596) {
            full.append(' ');
        }
        Checks.error(full + "room^", 1);
        Checks.error(full.substring(0, 593) + "room 15^", 1);
    }

    private static void cut(String text, int length) {
        Replayed x = new Replayed();
        Checks.put(x, text);
        x.truncate(length);
        Checks.is(text + " cut", x.load(), ThermoscopeGallery.PARSE_ERROR);
        Checks.is(text + " cut: code", x.errorCode(), 1);
        Checks.is(text + " cut: offset", x.errorOffset(), length);
    }

    private static void promises5and6names() {
        Checks.error("gallery 20 4;spirit ^abcde 1;", 2);
        Checks.error("gallery 20 4;bath ^abcde 1;", 2);
        Checks.error("gallery 20 4;spirit ^5 5;", 1);
        Checks.error("gallery 20 4;bath ^-5;", 1);
        Checks.error("gallery 20 4;spirit ^;", 1);
        Checks.error("gallery 20 4;spirit ab^;", 1);
        Checks.error("gallery 20 4;spirit s ^0;", 2);
        Checks.error("gallery 20 4;spirit s ^41;", 2);
        Checks.error("gallery 20 4;spirit s ^-1;", 1);
        Checks.error("gallery 20 4;spirit s 1 ^1;", 1);
        Checks.error("gallery 20 4;bath b ^151;", 2);
        Checks.error("gallery 20 4;bath b -^21;", 2);
        Checks.error("gallery 20 4;bath b ^b;", 1);
        Checks.error("gallery 20 4;spirit s 1;spirit ^s 2;", 3);
        Checks.error("gallery 20 4;spirit s 1;bath ^s 2;", 3);
        Checks.error("gallery 20 4;bath s 1;spirit ^s 2;", 3);
        Checks.error("gallery 20 4;bath abcd 1;bath ^abcd 2;", 3);
        Checks.error("gallery 20 4;spirit a 1;spirit b 1;spirit c 1;spirit d 1;spirit e 1;^spirit a;", 5);
        Checks.error("gallery 20 4;bath a 1;bath b 1;bath c 1;bath d 1;^bath", 5);
        room("gallery 20 4;spirit s 1;spirit t 40;bath a 150;bath b -20;spirit ss 1;spirit sss 1;spirit ssss 1;"
                + "bath st 0;bath ts 0;", 20);
        room("gallery 20 4;spirit tube 5;tube tube 1 1 10 0;bath dip 5;dip 0 dip;bath mark -0;", 20);
        room("gallery 20 4;spirit az 5;spirit za 5;spirit zzzz 5;spirit zzz 5;tube zzzz 1 1 10 0;", 20);
        Replayed x = Checks.loaded("gallery 20 4;bath a 5;bath b -5;bath c 150;bath d -20;");
        Checks.is("bath 0", x.bathDegrees(0), 5);
        Checks.is("bath 1", x.bathDegrees(1), -5);
        Checks.is("bath 2", x.bathDegrees(2), 150);
        Checks.is("bath 3", x.bathDegrees(3), -20);
    }

    private static void promises5and6tubes() {
        String start = "gallery 20 4;spirit s 1;bath b 5;";
        Checks.error(start + "tube ^x 1 1 10 0;", 4);
        Checks.error(start + "tube ^b 1 1 10 0;", 4);
        Checks.error(start + "tube ^abcde 1 1 10 0;", 4);
        Checks.error(start + "tube ^0 1 1 10 0;", 1);
        Checks.error(start + "tube s ^0 1 10 0;", 2);
        Checks.error(start + "tube s ^51 1 10 0;", 2);
        Checks.error(start + "tube s 1 ^0 10 0;", 2);
        Checks.error(start + "tube s 1 ^10 10 0;", 2);
        Checks.error(start + "tube s 1 1 ^9 0;", 2);
        Checks.error(start + "tube s 1 1 ^1000 0;", 2);
        Checks.error(start + "tube s 1 1 10 ^1000;", 2);
        Checks.error(start + "tube s 1 1 10^;", 1);
        Checks.error(start + "tube s 1 1 10 ^-1;", 1);
        Checks.error(start + "tube s 1 1 10 0 ^0;", 1);
        Checks.error(start + tubes(8) + "^tube x;", 5);
        Checks.is("8 tubes", Checks.loaded(start + tubes(8)).spiritOf(7), 0);
        Replayed x = Checks.loaded(start + "tube s 1 1 10 0;spirit t 40;tube t 50 9 999 999;");
        Checks.is("free height of the least", x.freeHeightAt(0, 1500), 1);
        Checks.is("free height of the greatest", x.freeHeightAt(1, 1500), 999 + 2000 * 1800 / 9000);
    }

    private static void promises5and6deeds() {
        Checks.error(START + "leak ^1;", 2);
        Checks.error(START + "leak ^99999999999;", 2);
        Checks.error(START + "leak ^-0;", 1);
        Checks.error(START + "leak ^b;", 1);
        Checks.error(START + "leak 0^", 1);
        Checks.error("gallery 20 4;leak ^0;", 2);
        Checks.error(START + "seal ^1;", 2);
        Checks.error(START + "seal^;", 1);
        Checks.error(START + "dip ^1 b;", 2);
        Checks.error(START + "dip 0 ^s;", 4);
        Checks.error(START + "dip 0 ^bb;", 4);
        Checks.error(START + "dip 0 ^abcdefgh;", 4);
        Checks.error(START + "dip 0 ^0;", 1);
        Checks.error(START + "dip 0 b ^b;", 1);
        Checks.error(START + "lift ^1;", 2);
        Checks.error(START + "mark ^1;", 2);
        Checks.error(START + "thumb ^1 1;", 2);
        Checks.error(START + "thumb 0 ^0;", 2);
        Checks.error(START + "thumb 0 ^61;", 2);
        Checks.error(START + "thumb 0^;", 1);
        Checks.error(START + "fill ^1 1;", 2);
        Checks.error(START + "fill 0 ^0;", 2);
        Checks.error(START + "fill 0 ^1000;", 2);
        Checks.error(START + "erase ^1 0;", 2);
        Checks.error(START + "erase 0 ^0;", 2);
        Checks.error(START + "erase 0 ^-1;", 1);
        Checks.error(START + "dip 0 b;pass 50;mark 0;erase 0 ^1;", 2);
        Checks.error(START + "dip 0 b;pass 50;mark 0;erase 0 0;erase 0 ^0;", 2);
        Checks.error(START + "room ^151;", 2);
        Checks.error(START + "room -^21;", 2);
        Checks.error(START + "room^;", 1);
        Checks.error(START + "pass ^301;", 2);
        Checks.error(START + "pass ^-1;", 1);
        Checks.error(START + "pass^;", 1);
        Checks.error(START + "^duke;", 1);
        Checks.error(START + "^passs 1;", 1);
        Checks.error(START + "room 5;bath c ^151;spirit abcde 1;", 2);
        room(START + "thumb 0 1;thumb 0 60;fill 0 990;room 150;room -20;pass 0;pass 300;", -20);
    }

    private static void promises5and6refusals() {
        Checks.error(START + "dip 0 b;dip 0 b^;", 6);
        Checks.error(START + "dip 0 b;dip 0 b ^dip", 1);
        Checks.error(START + "dip 0 b;dip 0 b^", 1);
        Checks.error(START + "thumb 0 1;dip 0 b ^;", 6);
        Checks.error(START + "lift 0^;", 6);
        Checks.error(START + "dip 0 b;lift 0;lift 0^;", 6);
        Checks.error(START + "mark 0^;", 6);
        Checks.error(START + "dip 0 b;mark 0^;", 6);
        Checks.error(START + "dip 0 b;pass 50;thumb 0 1;mark 0^;", 6);
        Checks.error(START + "dip 0 b;pass 50;mark 0;mark 0^;", 6);
        Checks.error(START + "fill 0 991^;", 6);
        Checks.error(START + "fill 0 990;fill 0 1^;", 6);
        Checks.error(START + "fill 0 991 ^1;", 1);
        room(START + "thumb 0 1;pass 1;dip 0 b;thumb 0 3;lift 0;", 20);
    }

    private static void statementsDoWhatTheMethodsDo() {
        String warm = START + "bath c 0;spirit u 2;tube u 9 3 50 40;dip 0 b;dip 1 c;pass 60;mark 0;mark 1;";
        Replayed byText = Checks.loaded(warm + "leak 0;leak 1;seal 0;dip 1 b;pass 60;mark 1;lift 1;"
                + "fill 1 7;erase 1 0;room -7;thumb 1 33;thumb 0 44;pass 9;");
        Replayed byCalls = Checks.loaded(warm);
        byCalls.setLeaky(0, true);
        byCalls.setLeaky(1, true);
        byCalls.setLeaky(0, false);
        byCalls.dip(1, 0);
        byCalls.pass(60);
        byCalls.mark(1);
        byCalls.lift(1);
        byCalls.topUp(1, 7);
        byCalls.erasePoint(1, 0);
        byCalls.setRoom(-7);
        byCalls.layThumb(1, 33);
        byCalls.layThumb(0, 44);
        byCalls.pass(9);
        Checks.is("text and calls", Checks.state(byText), Checks.state(byCalls));
        Checks.is("thumb", byText.thumbLeft(), 35);
        Checks.is("leaky", byText.isLeaky(1), true);
        Checks.is("sealed", byText.isLeaky(0), false);
        Checks.is("losses in the text count", byText.spiritLost(0), 9);
        Checks.is("leaks in the text count", byText.spiritLost(1), 6);
        Checks.is("undone load", byText.undo(), 0);
        Checks.refuses("the text's own changes can't be undone", byText, Checks.STATE, () -> byText.undo());
    }

    private static void statementsAreCarriedOutInOrder() {
        Replayed x = Checks.loaded("gallery 20 4;spirit s 1;room -20;tube s 1 1 10 0;room 50;"
                + "tube s 1 1 10 0;pass 5;tube s 1 1 10 0;");
        Checks.is("temperature of a tube described later", x.temperatureOf(2), 500);
        Checks.is("minute", x.minute(), 5);
        // -200: 700 / 4 = 175, 525 / 4 = 131, 394 / 4 = 98, 296 / 4 = 74, 222 / 4 = 55
        Checks.is("temperature of the first", x.temperatureOf(0), -200 + 175 + 131 + 98 + 74 + 55);
        Checks.is("temperature of the second", x.temperatureOf(1), 500);
        // Rows of an earlier text must not shine through.
        Checks.load(x, START + "leak 0;dip 0 b;pass 50;mark 0;thumb 0 5;");
        Checks.load(x, START);
        Checks.is("a fresh text", Checks.state(x), Checks.state(Checks.loaded(START)));
        String marked = "gallery 20 1;spirit s 1;bath a 0;bath b 100;tube s 1 9 99 5;tube s 1 9 99 5;dip 1 a;pass 1;"
                + "mark 1;fill 1 9;dip 1 b;pass 1;mark 1;";
        Checks.load(x, marked);
        Checks.load(x, START);
        Checks.is("behind one with a scale", Checks.state(x), Checks.state(Checks.loaded(START)));
    }

    private static void room(String text, int degrees) {
        Checks.is("room of " + text, Checks.loaded(text).roomDegrees(), degrees);
    }

    private static String tubes(int count) {
        StringBuilder text = new StringBuilder();
        for (int i = 0; i < count; i++) {
            text.append("tube s 1 1 10 0;");
        }
        return text.toString();
    }
}
