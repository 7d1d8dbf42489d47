import java.util.function.Consumer;

/** The input buffer and "Setup text" of DOC.md: each sentence that names an edge has a test of its own. */
public final class TextEdgesTest {
    private static final String GALLERY = "gallery 20 1;";
    // Every statement below can follow: tube 0 is in h, settled, and has one point.
    private static final String START = GALLERY + "spirit s 1;bath c 0;bath h 100;tube s 1 9 999 0;tube s 1 9 999 5;"
            + "dip 0 c;pass 1;mark 0;fill 0 3;dip 0 h;pass 1;";

    public static void main(String[] args) {
        sixHundredBytes();
        fullOfBlanks();
        cutTexts();
        appendedBytes();
        bytesBetweenStatements();
        bytesInNames();
        bytesInNumbers();
        longestRuns();
        numbersOfAnyLength();
        blanks();
        semicolons();
        minusSigns();
        signs();
        galleryFirst();
        galleryNumbers();
        forms();
        newSpirit();
        newBath();
        newTube();
        dips();
        lifts();
        marks();
        rooms();
        tubeNumbers();
        pointNumbers();
        thumbNumbers();
        fillNumbers();
        passNumbers();
        leakAndSeal();
        inOrder();
        firstError();
        smallestCode();
        offsets();
        code1();
        code2();
        code3();
        code4();
        code5();
        code6Dip();
        code6Lift();
        code6Mark();
        code6Fill();
        Checks.finish("TextEdgesTest");
    }

    private static String filled(String text, int length, char sign) {
        StringBuilder filled = new StringBuilder(text);
        while (filled.length() < length) {
            filled.append(sign);
        }
        return filled.toString();
    }

    // ---- The input buffer ----

    private static void sixHundredBytes() {
        Checks.sentence("The input buffer holds at most 600 bytes.");
        Checks.is("the last statement ends at byte 600",
                Checks.loaded(filled(GALLERY, 591, ' ') + "room -20;").roomDegrees(), -20);
        Checks.error(filled(GALLERY, 596, ' ') + "room^", 1);
        Checks.error(filled(GALLERY, 599, '\n') + "^A", 1);
        Checks.is("a number that ends at byte 599",
                Checks.loaded(GALLERY + "room " + filled("", 579, '0') + "15;").roomDegrees(), 15);
        Replayed x = new Replayed();
        Checks.put(x, filled(GALLERY, 591, ' ') + "room -20;");
        Checks.refuses("more", x, Checks.STATE, () -> x.append(0, 0, 0, 0, 0));
        Checks.is("all 600 are still there", x.load(), 0);
        Checks.is("all 600 are still there", x.roomDegrees(), -20);
        Checks.put(x, filled(GALLERY, 581, ' '));
        Checks.refuses("one byte too many", x, Checks.STATE, () -> x.append(-1, -1, -1, -1, -1));
        Checks.is("the 581 are still there", x.truncate(581), 581);
        Checks.is("and nothing behind them", x.load(), 0);
    }

    private static void fullOfBlanks() {
        Checks.sentence("or the text is empty");
        Checks.errorAt("", 0, 1);
        Checks.errorAt(" ", 1, 1);
        Checks.errorAt("\n \n", 3, 1);
        Checks.errorAt(filled("", 600, ' '), 600, 1);
        Checks.errorAt(filled("", 600, '\n'), 600, 1);
    }

    /** What stood behind the end before it was cut does not belong to the last token. */
    private static void cutTexts() {
        Checks.sentence("Shortens the input buffer.");
        cut("gallery", 6, 0);
        cut(GALLERY + "room", 16, 13);
        cut(GALLERY + "room 7;", 19, 19);
        String all = START + "spirit t 12;bath d -15;seal 1;leak 1;mark 0;erase 0 0;lift 0;thumb 1 12;fill 1 12;"
                + "room 151;";
        for (int length = 0; length <= all.length(); length++) {
            Replayed x = new Replayed();
            Checks.load(x, all.substring(0, length));
            cut(all, length, x.errorOffset());
        }
    }

    private static void cut(String text, int length, int offset) {
        Replayed x = new Replayed();
        Checks.put(x, text);
        x.truncate(length);
        x.load();
        Checks.is("offset of " + text + ", cut to " + length, x.errorOffset(), offset);
    }

    private static void appendedBytes() {
        Checks.sentence("Appends 20 bytes to the input buffer: the four bytes of each parameter, the most"
                + " significant byte first.");
        // Each of the twenty places in turn has a byte that ends the parsing there.
        for (int place = 0; place < 20; place++) {
            for (int b : new int[] {0, 1, 127, 128, 255}) {
                Replayed x = new Replayed();
                Checks.put(x, GALLERY);
                int[] fours = {0x20202020, 0x20202020, 0x20202020, 0x20202020, 0x20202020};
                int shift = 24 - 8 * (place % 4);
                fours[place / 4] = fours[place / 4] & ~(255 << shift) | b << shift;
                Checks.is("length", x.append(fours[0], fours[1], fours[2], fours[3], fours[4]), 33);
                Checks.is("load", x.load(), -7);
                Checks.is("byte " + b + " at " + place, x.errorOffset(), 13 + place);
            }
        }
    }

    // ---- Tokens ----

    private static void bytesBetweenStatements() {
        Checks.sentence("Spaces (32) and line feeds (10) only separate tokens.");
        for (int b = 0; b < 256; b++) {
            if (b == 32 || b == 10) {
                Checks.is("byte " + b, Checks.loaded(GALLERY + (char) b + "room 7;" + (char) b).roomDegrees(), 7);
            } else {
                Checks.errorAt(GALLERY + (char) b, 13, 1);
            }
        }
    }

    private static void bytesInNames() {
        Checks.sentence("A token is a word (a longest run of the letters a to z)");
        String text = GALLERY + "bath y";
        for (int b = 0; b < 256; b++) {
            boolean behind = b == 32 || b == 10 || b == '-' || b >= '0' && b <= '9';
            if (b >= 'a' && b <= 'z') {
                Checks.is("letter " + b, Checks.loaded(text + (char) b + "y 5;").bathDegrees(0), 5);
                Checks.is("letter " + b, Checks.loaded(GALLERY + "bath " + (char) b + " 5;").bathDegrees(0), 5);
            } else {
                Checks.errorAt(text + (char) b + "y 5;", text.length() + (behind ? 1 : 0), 1);
            }
        }
    }

    private static void bytesInNumbers() {
        Checks.sentence("a number (a longest run of digits, of any length)");
        String text = GALLERY + "room 1";
        for (int b = 0; b < 256; b++) {
            String whole = text + (char) b + "3;";
            if (b >= '0' && b <= '4') {
                Checks.is("digit " + b, Checks.loaded(whole).roomDegrees(), 100 + 10 * (b - '0') + 3);
            } else if (b >= '5' && b <= '9') {
                Checks.errorAt(whole, text.length() - 1, 2);
            } else {
                // A semicolon ends the statement: the 3 behind it begins none.
                Checks.errorAt(whole, text.length() + (b == 32 || b == 10 || b == ';' ? 1 : 0), 1);
            }
        }
    }

    private static void longestRuns() {
        Checks.sentence("a longest run");
        Checks.is("no blanks between a word and a number",
                Checks.loaded("gallery20 1;spirit s1;bath b7;tube s1 9 10 0;dip0b;room9;").roomDegrees(), 9);
        Checks.is("no blanks at the minus sign", Checks.loaded("gallery-20 1;room-7;").roomDegrees(), -7);
        Checks.error(GALLERY + "^roomb 7;", 1);
        Checks.error(GALLERY + "^roo m 7;", 1);
        Checks.error(GALLERY + "room 1 ^5;", 1);
        Checks.error(GALLERY + "room 5^x;", 1);
        Checks.error("gallery ^201;", 2);
    }

    private static void numbersOfAnyLength() {
        Checks.sentence("a number (a longest run of digits, of any length)");
        for (String number : new String[] {"151", "999", "1000", "2147483647", "2147483648", "4294967303",
            "9223372036854775807", "9223372036854775808", "18446744073709551623", "100000000000000000007"}) {
            Checks.errorAt(GALLERY + "room " + number + ";", 18, 2);
            Checks.errorAt(GALLERY + "room -" + number + ";", 19, 2);
            Checks.errorAt("gallery 20 " + number + ";", 11, 2);
        }
        Checks.errorAt(GALLERY + "room " + filled("", 580, '9') + ";", 18, 2);
        Checks.errorAt(GALLERY + "room 1" + filled("", 579, '0') + ";", 18, 2);
        Checks.is("zeros", Checks.loaded(GALLERY + "room " + filled("", 580, '0') + ";").roomDegrees(), 0);
        Checks.is("zeros first", Checks.loaded(GALLERY + "room -" + filled("", 500, '0') + "20;").roomDegrees(), -20);
    }

    private static void blanks() {
        Checks.sentence("Spaces (32) and line feeds (10) only separate tokens.");
        Checks.is("many", Checks.loaded("\n  gallery \n 20\n\n1 ; room - \n 7 \n;\n").roomDegrees(), -7);
        Checks.error("^gal lery 20 1;", 1);
        Checks.error("gallery 2 5 ^1;", 1);
        Checks.error(GALLERY + "bath a ^b 5;", 1);
    }

    private static void semicolons() {
        Checks.sentence("Each statement ends with a semicolon.");
        Checks.error("gallery 20 1^", 1);
        Checks.error("gallery 20 1 ^room 7;", 1);
        Checks.error(GALLERY + "room 7^", 1);
        Checks.error(GALLERY + "room 7\n^room 8;", 1);
        Checks.error(GALLERY + "room 7;^;", 1);
        Checks.error(GALLERY + "^;room 7;", 1);
        Checks.error("^;" + GALLERY, 1);
    }

    private static void minusSigns() {
        Checks.sentence("A DEGREES is a number, or a minus sign and a number");
        for (String before : new String[] {"gallery ", GALLERY + "room ", GALLERY + "bath b "}) {
            String behind = before.equals("gallery ") ? " 1;" : ";";
            Checks.loaded(before + "-0" + behind);
            Checks.loaded(before + "- 20" + behind);
            Checks.error(before + "-^-5" + behind, 1);
            Checks.error(before + "-^x" + behind, 1);
            Checks.error(before + "-^;", 1);
            Checks.error(before + "-^", 1);
            Checks.error(before + "^x" + behind, 1);
            Checks.error(before + "^;", 1);
            Checks.error(before + "5^-;", 1);
            Checks.error(before + "-^21" + behind, 2);
            Checks.error(before + "-^151" + behind, 2);
        }
    }

    private static void signs() {
        Checks.sentence("a minus sign (byte 45) or a semicolon.");
        for (int b = 0; b < 256; b++) {
            String minus = GALLERY + "room " + (char) b + "7;";
            String semicolon = GALLERY + "room 7" + (char) b;
            if (b == 45) {
                Checks.is("the minus sign", Checks.loaded(minus).roomDegrees(), -7);
            } else if (b < '0' && b != 32 && b != 10 || b > '9') {
                Checks.errorAt(minus, 18, 1);
            }
            if (b == 59) {
                Checks.is("the semicolon", Checks.loaded(semicolon).roomDegrees(), 7);
            } else {
                boolean goesOn = b >= '0' && b <= '9' || b == 32 || b == 10;
                Checks.errorAt(semicolon, goesOn ? 20 : 19, 1);
            }
        }
        Checks.error(GALLERY + "room -^-7;", 1);
        Checks.error(GALLERY + "room 7;^;", 1);
    }

    // ---- Statements ----

    private static void galleryFirst() {
        Checks.sentence("This is the first statement, and it occurs only there.");
        for (String word : new String[] {"spirit", "bath", "tube", "leak", "dip", "lift", "mark", "thumb", "seal",
            "fill", "erase", "room", "pass", "duke"}) {
            Checks.errorAt(word + " 5;" + GALLERY, 0, 1);
        }
        Checks.error(GALLERY + "^gallery 20 1;", 1);
        Checks.error(GALLERY + "room 7;^gallery 20 1;", 1);
        Checks.is("alone", Checks.load(new Replayed(), GALLERY), 0);
    }

    private static void galleryNumbers() {
        Checks.sentence("gallery DEGREES LAG: the temperature of the room and the lag.");
        Checks.range("gallery 20 ", 1, 20, ";");
        degrees("gallery ", " 1;");
    }

    /** With a minus sign it is an error of the number. */
    private static void degrees(String before, String behind) {
        Checks.loaded(before + "0" + behind);
        Checks.loaded(before + "150" + behind);
        Checks.loaded(before + "-0" + behind);
        Checks.loaded(before + "-20" + behind);
        Checks.errorAt(before + "151" + behind, before.length(), 2);
        Checks.errorAt(before + "-21" + behind, before.length() + 1, 2);
    }

    /** Every statement that START allows behind it, a blank before each token. */
    private static void forms() {
        Checks.sentence("1: the token is not allowed here by the form above, the text ends too early");
        String[] statements = {"spirit t 5 ;", "bath d 5 ;", "bath d - 5 ;", "tube s 1 1 10 0 ;", "leak 0 ;",
            "dip 1 c ;", "lift 0 ;", "mark 0 ;", "thumb 0 5 ;", "seal 0 ;", "fill 0 5 ;", "erase 0 0 ;",
            "room 5 ;", "room - 5 ;", "pass 5 ;"};
        form("", "gallery 20 4 ;");
        form("", "gallery - 20 4 ;");
        for (String statement : statements) {
            form(START, statement);
        }
    }

    private static void form(String before, String statement) {
        Checks.loaded(before + statement);
        String[] tokens = statement.split(" ");
        String text = before;
        for (int i = 0; i < tokens.length; i++) {
            if (i > 0) {
                Checks.errorAt(text, text.length(), 1);
            }
            boolean degrees = i > 0 && (tokens[0].equals("room") || tokens[0].equals("gallery") && i == 1
                    || tokens[0].equals("bath") && i == 2);
            for (String wrong : new String[] {"zz", "5", "-", ";", "A"}) {
                boolean same = i > 0 && kind(wrong) == kind(tokens[i]) || degrees && "5-".contains(wrong);
                if (!same) {
                    Checks.errorAt(text + wrong + " ;", text.length(), 1);
                }
            }
            text += tokens[i] + " ";
        }
    }

    private static char kind(String token) {
        char first = token.charAt(0);
        return first >= 'a' && first <= 'z' ? 'a' : first >= '0' && first <= '9' ? '0' : first;
    }

    private static void newSpirit() {
        Checks.sentence("spirit NAME EXPANSION: a spirit.");
        Replayed x = Checks.loaded(GALLERY + "spirit ab 3;spirit cde 40;tube cde 50 1 10 0;tube ab 50 1 10 0;");
        Checks.is("name", Checks.printed(x, 0), "cde 10/10");
        Checks.is("name", Checks.printed(x, 1), "ab 10/10");
        Checks.is("expansion", x.freeHeightAt(0, 1500), 3600);
        Checks.is("expansion", x.freeHeightAt(1, 1500), 270);
        Checks.refuses("a third", x, Checks.INDEX, () -> x.spiritLost(2));
    }

    private static void newBath() {
        Checks.sentence("bath NAME DEGREES: a bath.");
        Replayed x = Checks.loaded(GALLERY + "bath ab -20;bath cde 149;spirit s 1;tube s 1 9 10 0;dip 0 cde;");
        Checks.is("degrees", x.bathDegrees(0), -20);
        Checks.is("degrees", x.bathDegrees(1), 149);
        Checks.is("name", x.bathOf(0), 1);
        Checks.refuses("a third", x, Checks.INDEX, () -> x.bathDegrees(2));
    }

    private static void newTube() {
        Checks.sentence("tube SPIRIT BULB BORE LENGTH FILL: a tube with a spirit (a name), which is not leaky.");
        Replayed x = Checks.loaded(GALLERY + "spirit s 1;spirit t 20;tube t 30 4 500 60;");
        Checks.is("spirit", x.spiritOf(0), 1);
        Checks.is("fill", x.fillOf(0), 60);
        Checks.is("bulb and bore", x.freeHeightAt(0, 700), 60 + 30 * 20 * 1000 / 4000);
        Checks.is("length", Checks.printed(x, 0), "t 135/500");
        Checks.is("not leaky", x.isLeaky(0), false);
        Checks.is("in the room", x.bathOf(0), -1);
        Checks.is("without points", x.pointCount(0), 0);
    }

    /** Behind START the statement does what the method does. */
    private static void sameAs(String statement, Consumer<Replayed> method) {
        Replayed x = Checks.loaded(START);
        String before = Checks.state(x);
        method.accept(x);
        String after = Checks.state(x);
        Checks.is(statement + " changes something", after.equals(before), false);
        Checks.is(statement, Checks.state(Checks.loaded(START + statement)), after);
    }

    private static void dips() {
        Checks.sentence("dip TUBE BATH: a tube is dipped into a bath (a name).");
        sameAs("dip 0 c;", x -> x.dip(0, 0));
        sameAs("dip 1 h;", x -> x.dip(1, 1));
        Replayed x = Checks.loaded(START + "dip 1 c;");
        Checks.is("bath", x.bathOf(1), 0);
        Checks.is("bath of the other one", x.bathOf(0), 1);
        Checks.is("the temperature stays", x.temperatureOf(1), 200);
    }

    private static void lifts() {
        Checks.sentence("lift TUBE: a tube is lifted into the room, as by the method lift.");
        sameAs("lift 0;", x -> x.lift(0));
        Checks.is("in the room", Checks.loaded(START + "lift 0;").bathOf(0), -1);
    }

    private static void marks() {
        Checks.sentence("mark TUBE: a point is marked.");
        sameAs("mark 0;", x -> x.mark(0));
        Replayed x = Checks.loaded(START + "mark 0;");
        Checks.is("points", x.pointCount(0), 2);
        Checks.is("degrees", x.pointDegrees(0, 1), 100);
        Checks.is("height", x.pointHeight(0, 1), 3);
    }

    private static void rooms() {
        Checks.sentence("room DEGREES: the temperature of the room is set.");
        sameAs("room -7;", x -> x.setRoom(-7));
        Replayed x = Checks.loaded(START + "room 150;");
        Checks.is("degrees", x.roomDegrees(), 150);
        Checks.is("surroundings", x.surroundingsOf(1), 1500);
        Checks.is("surroundings in a bath", x.surroundingsOf(0), 1000);
    }

    private static void tubeNumbers() {
        Checks.sentence("also the number of a tube or point that does not exist");
        Checks.range(START + "leak ", 0, 1, ";");
        Checks.range(START + "seal ", 0, 1, ";");
        Checks.range(START + "dip ", 0, 1, " c;");
        Checks.range(START + "dip 1 c;lift ", 0, 1, ";");
        Checks.range(START + "dip 1 c;pass 1;mark ", 0, 1, ";");
        Checks.range(START + "thumb ", 0, 1, " 5;");
        Checks.range(START + "fill ", 0, 1, " 5;");
        Checks.range(START + "dip 1 c;pass 1;mark 1;erase ", 0, 1, " 0;");
        for (String statement : new String[] {"leak ^0;", "seal ^0;", "dip ^0 c;", "lift ^0;", "mark ^0;",
            "thumb ^0 5;", "fill ^0 5;", "erase ^0 0;"}) {
            Checks.error(GALLERY + "bath c 0;" + statement, 2);
        }
        String eight = GALLERY + "spirit s 1;";
        for (int i = 0; i < 8; i++) {
            eight += "tube s 1 9 10 0;";
        }
        Checks.range(eight + "leak ", 0, 7, ";");
    }

    private static void pointNumbers() {
        Checks.sentence("erase TUBE POINT: a point (a number) of a tube is erased, as by the method erasePoint.");
        sameAs("erase 0 0;", x -> x.erasePoint(0, 0));
        Checks.errorAt(START + "erase 1 0;", START.length() + 8, 2);
        Checks.range(START + "erase 0 ", 0, 0, ";");
        Checks.range(START + "mark 0;erase 0 ", 0, 1, ";");
        Checks.errorAt(START + "erase 0 0;erase 0 0;", START.length() + 18, 2);
        Checks.is("the later one moves", Checks.loaded(START + "mark 0;erase 0 0;").pointDegrees(0, 0), 100);
        Checks.is("the earlier one stays", Checks.loaded(START + "mark 0;erase 0 1;").pointDegrees(0, 0), 0);
    }

    private static void thumbNumbers() {
        Checks.sentence("thumb TUBE MINUTES: the thumb is laid on a tube, for 1 to 60 minutes.");
        Checks.is("least", Checks.loaded(START + "thumb 1 1;").thumbLeft(), 1);
        Checks.is("most", Checks.loaded(START + "thumb 1 60;").thumbLeft(), 60);
        Checks.range(START + "thumb 1 ", 1, 60, ";");
    }

    private static void fillNumbers() {
        Checks.sentence("fill TUBE AMOUNT: spirit is added to a tube, 1 to 999, as by the method topUp.");
        sameAs("fill 1 7;", x -> x.topUp(1, 7));
        String empty = GALLERY + "spirit s 1;tube s 1 9 999 0;";
        Checks.is("least", Checks.loaded(empty + "fill 0 1;").fillOf(0), 1);
        Checks.is("most", Checks.loaded(empty + "fill 0 999;").fillOf(0), 999);
        Checks.range(empty + "fill 0 ", 1, 999, ";");
    }

    private static void passNumbers() {
        Checks.sentence("pass N: N minutes pass, 0 to 300.");
        Checks.is("least", Checks.loaded(GALLERY + "pass 0;").minute(), 0);
        Checks.is("most", Checks.loaded(GALLERY + "pass 300;").minute(), 300);
        Checks.range(GALLERY + "pass ", 0, 300, ";");
    }

    private static void leakAndSeal() {
        Checks.sentence("leak TUBE: a tube (a number) becomes leaky.");
        sameAs("leak 1;", x -> x.setLeaky(1, true));
        Checks.is("leaky", Checks.loaded(START + "leak 1;").isLeaky(1), true);
        Checks.is("not the other one", Checks.loaded(START + "leak 1;").isLeaky(0), false);
        Checks.is("twice leaky", Checks.loaded(START + "leak 0;leak 0;").isLeaky(0), true);
        Checks.sentence("seal TUBE: a tube is not leaky any more.");
        Checks.is("sealed", Checks.loaded(START + "leak 0;leak 1;seal 0;").isLeaky(0), false);
        Checks.is("not the other one", Checks.loaded(START + "leak 0;leak 1;seal 0;").isLeaky(1), true);
        Checks.is("it was not leaky", Checks.loaded(START + "seal 0;").isLeaky(0), false);
    }

    private static void inOrder() {
        Checks.sentence("The statements are carried out in order.");
        Checks.is("the last one counts", Checks.loaded(GALLERY + "room 7;room 8;").roomDegrees(), 8);
        Checks.errorAt(GALLERY + "tube s 1 9 10 0;spirit s 1;", 18, 4);
        Checks.errorAt(GALLERY + "leak 0;spirit s 1;tube s 1 9 10 0;", 18, 2);
        Checks.loaded(GALLERY + "spirit s 1;tube s 1 9 10 0;bath b 1;leak 0;bath c 1;spirit t 1;tube t 1 9 10 0;"
                + "leak 1;");
        Checks.errorAt(START + "lift 0;mark 0;", START.length() + 13, 6);
        Checks.loaded(START + "mark 0;lift 0;");
    }

    // ---- Errors ----

    private static void firstError() {
        Checks.sentence("Parsing stops at the first token that has an error");
        Checks.error(GALLERY + "room ^151;bath abcde;", 2);
        Checks.error(GALLERY + "bath ^abcde;room 151;", 2);
        Checks.error(GALLERY + "^duke;room 151;", 1);
        Checks.error(START + "lift 1^;lift 5;", 6);
        Checks.error(START + "lift ^5;lift 1;", 2);
        Checks.error(START + "tube ^t 0 0 0 1000", 4);
    }

    private static void smallestCode() {
        Checks.sentence("and if a token has several errors, the smallest error code is reported.");
        Checks.error("gallery 20 1 ^999;", 1);
        Checks.error(GALLERY + "spirit ^999 1;", 1);
        Checks.error(START + "dip 0 ^999;", 1);
        Checks.error(START + "dip 0 h ^h;", 1);
        Checks.error(START + "dip 0 h ^", 1);
        Checks.error(START + "lift 1 ^1;", 1);
        Checks.error(START + "lift^;", 1);
        Checks.error(START + "mark 1 ^-", 1);
        Checks.error(START + "mark^;", 1);
        Checks.error(START + "fill 1 999 ^999;", 1);
        Checks.error(START + "fill 1^;", 1);
        Checks.error(GALLERY + "spirit abcd 1;bath ^abcde 1;", 2);
    }

    private static void offsets() {
        Checks.sentence("The error offset is the offset of the first byte of the token. At the end of the text it"
                + " is the length of the text.");
        Checks.error("^duke", 1);
        Checks.error(" \n ^duke", 1);
        Checks.error(GALLERY + "room   ^0000151  ;", 2);
        Checks.error(GALLERY + "bath\n\n^abcdefghij", 2);
        Checks.error(GALLERY + "room^", 1);
        Checks.error(GALLERY + "room  \n ^", 1);
        Checks.error(filled(GALLERY + "room", 600, ' ') + "^", 1);
        Checks.error(filled(GALLERY, 599, ' ') + "^;", 1);
    }

    private static void code1() {
        Checks.sentence("1: the token is not allowed here by the form above, the text ends too early, or the text"
                + " is empty.");
        Checks.error("^", 1);
        Checks.error("^duke 20 1;", 1);
        Checks.error("gallery^", 1);
        Checks.error("gallery 20^", 1);
        Checks.error("gallery 20 1^", 1);
        Checks.error(GALLERY + "spirit s 1 ^1;", 1);
    }

    private static void code2() {
        Checks.sentence("2: a number is out of range (for a DEGREES with a minus sign: an error of the number),"
                + " also the number of a tube or point that does not exist, or the NAME of a new spirit or bath has"
                + " more than 4 letters.");
        degrees(GALLERY + "bath b ", ";");
        degrees(GALLERY + "room ", ";");
        for (String what : new String[] {"spirit ", "bath "}) {
            Checks.loaded(GALLERY + what + "abcd 1;");
            Checks.errorAt(GALLERY + what + "abcde 1;", 13 + what.length(), 2);
            Checks.errorAt(GALLERY + what + "abcdef 1;", 13 + what.length(), 2);
            Checks.errorAt(GALLERY + what + filled("", 500, 'z') + " 1;", 13 + what.length(), 2);
        }
    }

    private static void code3() {
        Checks.sentence("3: the NAME of a new spirit or bath that another spirit or bath has.");
        for (String name : new String[] {"a", "gh", "xyz", "tube"}) {
            for (String one : new String[] {"spirit ", "bath "}) {
                for (String two : new String[] {"spirit ", "bath "}) {
                    String text = GALLERY + one + name + " 1;" + two;
                    Checks.errorAt(text + name + " 1;", text.length(), 3);
                    Checks.loaded(text + name.substring(1) + "q 1;");
                }
            }
        }
    }

    private static void code4() {
        Checks.sentence("4: a SPIRIT or BATH that does not exist.");
        Checks.error(GALLERY + "tube ^s 1 9 10 0;", 4);
        Checks.error(START + "tube ^t 1 9 10 0;", 4);
        Checks.error(START + "tube ^ss 1 9 10 0;", 4);
        Checks.error(START + "tube ^c 1 9 10 0;", 4);
        Checks.error(START + "tube ^sssss 1 9 10 0;", 4);
        Checks.error(START + "dip 0 ^t;", 4);
        Checks.error(START + "dip 0 ^hh;", 4);
        Checks.error(START + "dip 0 ^s;", 4);
        Checks.error(START + "dip 0 ^hhhhh;", 4);
        Checks.error(GALLERY + "spirit s 1;tube s 1 9 10 0;dip 0 ^h;", 4);
        Checks.error(GALLERY + "spirit abcd 1;tube ^abcda 1 9 10 0;", 4);
        Checks.error(GALLERY + "spirit abcd 1;tube ^eabcd 1 9 10 0;", 4);
    }

    private static void code5() {
        Checks.sentence("5: the word spirit for a 6th spirit, bath for a 5th bath, tube for a 9th tube.");
        String spirits = GALLERY;
        for (int i = 0; i < 5; i++) {
            Checks.loaded(spirits);
            spirits += "spirit " + (char) ('a' + i) + " 1;";
        }
        Checks.error(spirits + "^spirit", 5);
        Checks.error(spirits + "^spirit abcde 41;", 5);
        String baths = spirits;
        for (int i = 0; i < 4; i++) {
            Checks.loaded(baths);
            baths += "bath " + (char) ('q' + i) + " 1;";
        }
        Checks.error(baths + "^bath", 5);
        Checks.error(baths + "^bath q;", 5);
        String tubes = baths;
        for (int i = 0; i < 8; i++) {
            Checks.loaded(tubes);
            tubes += "tube e 1 9 10 0;";
        }
        Checks.error(tubes + "^tube", 5);
        Checks.error(tubes + "^tube z;", 5);
        Checks.loaded(tubes);
    }

    private static void code6Dip() {
        Checks.sentence("6: the semicolon of a dip, lift, mark or fill statement for which the method dip, lift,"
                + " mark or topUp would throw an IllegalStateException.");
        Checks.error(START + "dip 0 h^;", 6);
        Checks.error(START + "thumb 0 1;dip 0 c ^;", 6);
        Checks.error(START + "thumb 1 60;pass 59;dip 1 c^;", 6);
        Checks.loaded(START + "thumb 0 1;dip 1 c;");
        Checks.loaded(START + "thumb 0 1;pass 1;dip 0 c;");
    }

    private static void code6Lift() {
        Checks.sentence("6: the semicolon of a dip, lift, mark or fill statement for which the method dip, lift,"
                + " mark or topUp would throw an IllegalStateException.");
        Checks.error(START + "lift 1^;", 6);
        Checks.error(START + "lift 0;lift 0^;", 6);
        Checks.loaded(START + "lift 0;");
        Checks.loaded(START + "thumb 0 1;lift 0;");
    }

    private static void code6Mark() {
        Checks.sentence("6: the semicolon of a dip, lift, mark or fill statement for which the method dip, lift,"
                + " mark or topUp would throw an IllegalStateException.");
        Checks.error(START + "mark 1^;", 6);
        Checks.error(START + "lift 0;mark 0^;", 6);
        Checks.error(START + "dip 0 c;mark 0^;", 6);
        Checks.error(START + "thumb 0 1;mark 0^;", 6);
        Checks.error(START + "dip 0 c;pass 1;mark 0^;", 6);
        Checks.error(START + "mark 0;mark 0^;", 6);
        // The height of the first point comes back in minute 30: 3 - 3
        Checks.error(START + "leak 0;pass 28;mark 0^;", 6);
        Checks.loaded(START + "leak 0;pass 27;mark 0;");
        Checks.loaded(START + "mark 0;");
    }

    private static void code6Fill() {
        Checks.sentence("6: the semicolon of a dip, lift, mark or fill statement for which the method dip, lift,"
                + " mark or topUp would throw an IllegalStateException.");
        Checks.error(START + "fill 1 995^;", 6);
        Checks.error(START + "fill 1 994;fill 1 1^;", 6);
        Checks.error(START + "fill 1 999^;", 6);
        Checks.loaded(START + "fill 1 994;");
        Checks.loaded(START + "fill 1 994;leak 1;pass 10;fill 1 1;");
    }
}
