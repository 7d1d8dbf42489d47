/** Promises 49, 52, 53 and 56 to 63: the changes, saved states and undo. */
public final class ChangesTest {
    private static final String START = "gallery 20 1;spirit s 10;bath c 0;bath h 100;tube s 20 2 100 5;"
            + "tube s 1 9 999 7;";

    public static void main(String[] args) {
        promise49spiritDifference();
        promise52dip();
        promise53lift();
        promise56layThumb();
        promise57topUp();
        promise58setRoom();
        promise59setLeaky();
        promise60pass();
        promises61and62saveAndRestore();
        promise63undo();
        promise63undoOfEachChange();
        promise63sixChanges();
        Checks.finish("ChangesTest");
    }

    private static void promise49spiritDifference() {
        Replayed x = Checks.loaded(START + "leak 0;leak 1;fill 0 50;pass 33;fill 1 9;");
        Checks.sentence("Checks the spirits: the fills of all tubes as the text describes them plus all that was"
                + " added minus the fills now and the losses.");
        Checks.is("after a text", x.spiritDifference(), 0);
        x.topUp(0, 200);
        Checks.sentence("Returns the difference, which is always 0.");
        Checks.is("after topUp", x.spiritDifference(), 0);
        Checks.is("losses", x.pass(300) > 100, true);
        Checks.is("after losses", x.spiritDifference(), 0);
        x.undo();
        Checks.is("after undo", x.spiritDifference(), 0);
        Checks.is("of no tubes", Checks.loaded("gallery 20 1;").spiritDifference(), 0);
    }

    private static void promise52dip() {
        Replayed x = Checks.loaded(START);
        Checks.sentence("A tube is dipped into a bath.");
        Checks.is("dip", x.dip(0, 1), 1000);
        Checks.is("bath", x.bathOf(0), 1);
        Checks.is("the other one", x.bathOf(1), -1);
        Checks.is("the temperature stays", x.temperatureOf(0), 200);
        Checks.refuses("dip into the same", x, Checks.STATE, () -> x.dip(0, 1));
        Checks.is("dip from bath to bath", x.dip(0, 0), 0);
        x.layThumb(0, 1);
        Checks.refuses("dip with the thumb", x, Checks.STATE, () -> x.dip(0, 1));
        Checks.is("dip of another one", x.dip(1, 1), 1000);
        x.pass(1);
        Checks.is("dip after the thumb", x.dip(0, 1), 1000);
        Checks.refuses("dip of no tube", x, Checks.INDEX, () -> x.dip(2, 0));
        Checks.refuses("dip of no tube", x, Checks.INDEX, () -> x.dip(-1, 0));
        Checks.refuses("dip into no bath", x, Checks.INDEX, () -> x.dip(0, 2));
        Checks.refuses("dip into the room", x, Checks.INDEX, () -> x.dip(0, -1));
    }

    private static void promise53lift() {
        Replayed x = Checks.loaded(START + "dip 0 h;dip 1 c;");
        Checks.sentence("A tube is lifted from its bath into the room.");
        Checks.is("lift", x.lift(0), 1);
        Checks.is("room", x.bathOf(0), -1);
        Checks.is("lift", x.lift(1), 0);
        Checks.refuses("lift from the room", x, Checks.STATE, () -> x.lift(0));
        Checks.refuses("lift of no tube", x, Checks.INDEX, () -> x.lift(2));
        Checks.refuses("lift of no tube", x, Checks.INDEX, () -> x.lift(-1));
        x.dip(0, 1);
        x.layThumb(0, 2);
        Checks.is("lift with the thumb", x.lift(0), 1);
        Checks.is("the thumb stays", x.thumbedTube(), 0);
        Checks.is("its minutes stay", x.thumbLeft(), 2);
    }

    private static void promise56layThumb() {
        Replayed x = Checks.loaded(START);
        Checks.sentence("The thumb is laid on a tube.");
        Checks.is("from none", x.layThumb(1, 60), -1);
        Checks.is("from another", x.layThumb(0, 1), 1);
        Checks.is("minutes", x.thumbLeft(), 1);
        Checks.is("from itself", x.layThumb(0, 9), 0);
        Checks.is("minutes", x.thumbLeft(), 9);
        Checks.is("tube", x.thumbedTube(), 0);
        Checks.sentence("minutes: 1 to 60");
        for (int minutes : new int[] {0, 61, -1, Integer.MIN_VALUE, Integer.MAX_VALUE}) {
            Checks.refuses("layThumb", x, Checks.ARGUMENT, () -> x.layThumb(0, minutes));
            Checks.refuses("layThumb on no tube", x, Checks.INDEX, () -> x.layThumb(2, minutes));
        }
        Checks.refuses("layThumb on no tube", x, Checks.INDEX, () -> x.layThumb(-1, 1));
        x.pass(9);
        Checks.is("from none again", x.layThumb(1, 1), -1);
    }

    private static void promise57topUp() {
        Replayed x = Checks.loaded(START);
        Checks.sentence("Spirit is added to a tube.");
        Checks.is("topUp", x.topUp(0, 1), 6);
        Checks.is("fill", x.fillOf(0), 6);
        Checks.is("the other one", x.fillOf(1), 7);
        Checks.refuses("just too much", x, Checks.STATE, () -> x.topUp(0, 994));
        Checks.is("to the most", x.topUp(0, 993), 999);
        Checks.refuses("full", x, Checks.STATE, () -> x.topUp(0, 1));
        Checks.refuses("the most", x, Checks.STATE, () -> x.topUp(1, 999));
        Checks.sentence("amount: 1 to 999");
        for (int amount : new int[] {0, 1000, -1, Integer.MIN_VALUE, Integer.MAX_VALUE}) {
            Checks.refuses("topUp", x, Checks.ARGUMENT, () -> x.topUp(0, amount));
            Checks.refuses("topUp of no tube", x, Checks.INDEX, () -> x.topUp(2, amount));
        }
        Checks.refuses("topUp of no tube", x, Checks.INDEX, () -> x.topUp(-1, 1));
        Checks.sentence("Returns the fill afterwards.");
        Replayed y = Checks.loaded("gallery 20 1;spirit s 10;tube s 20 2 100 0;");
        Checks.is("the most at once", y.topUp(0, 999), 999);
        Checks.is("height", y.height(0), 100);
    }

    private static void promise58setRoom() {
        Replayed x = Checks.loaded(START + "dip 1 h;");
        Checks.sentence("Sets the temperature of the room.");
        Checks.is("setRoom", x.setRoom(-20), 20);
        Checks.is("setRoom", x.setRoom(150), -20);
        Checks.is("setRoom", x.setRoom(150), 150);
        Checks.is("room", x.roomDegrees(), 150);
        Checks.is("surroundings", x.surroundingsOf(0), 1500);
        Checks.is("surroundings in a bath", x.surroundingsOf(1), 1000);
        Checks.is("temperature", x.temperatureOf(0), 200);
        Checks.sentence("degrees: -20 to 150");
        for (int degrees : new int[] {-21, 151, Integer.MIN_VALUE, Integer.MAX_VALUE}) {
            Checks.refuses("setRoom", x, Checks.ARGUMENT, () -> x.setRoom(degrees));
        }
    }

    private static void promise59setLeaky() {
        Replayed x = Checks.loaded(START);
        Checks.sentence("Sets whether a tube is leaky.");
        Checks.is("setLeaky", x.setLeaky(0, true), false);
        Checks.is("leaky", x.isLeaky(0), true);
        Checks.is("the other one", x.isLeaky(1), false);
        Checks.is("setLeaky", x.setLeaky(0, true), true);
        Checks.sentence("isLeaky: whether it is leaky afterwards");
        Checks.is("setLeaky", x.setLeaky(0, false), true);
        Checks.is("leaky", x.isLeaky(0), false);
        Checks.is("setLeaky", x.setLeaky(0, false), false);
        Checks.is("even a change to the same is one, and load is one", x.undo(), 4);
        for (int tube : new int[] {-1, 2, Integer.MIN_VALUE, Integer.MAX_VALUE}) {
            Checks.refuses("setLeaky", x, Checks.INDEX, () -> x.setLeaky(tube, true) ? 1 : 0);
        }
    }

    private static void promise60pass() {
        Replayed x = Checks.loaded(START + "leak 1;dip 0 h;");
        Checks.sentence("Minutes pass.");
        // 135 of 100, but only 5 to spill
        Checks.is("pass", x.pass(1), 5);
        Checks.is("minute", x.minute(), 1);
        Checks.is("pass", x.pass(300), 7);
        Checks.is("minute", x.minute(), 301);
        Checks.sentence("minutes: 1 to 300");
        for (int minutes : new int[] {0, -1, 301, Integer.MIN_VALUE, Integer.MAX_VALUE}) {
            Checks.refuses("pass", x, Checks.ARGUMENT, () -> x.pass(minutes));
        }
        Replayed y = Checks.loaded("gallery 20 1;");
        Checks.is("without tubes", y.pass(300), 0);
        Checks.is("minute", y.minute(), 300);
    }

    private static void promises61and62saveAndRestore() {
        Replayed x = Checks.loaded(START + "pass 3;thumb 0 9;");
        Checks.refuses("nothing is saved", x, Checks.STATE, () -> x.restore(0));
        String first = Checks.state(x);
        Checks.sentence("Returns the minute number.");
        Checks.is("save", x.save(0), 3);
        Checks.is("saving is no change", x.undo(), 0);
        Checks.is("restore after undo", x.restore(0), 3);
        Checks.is("state", Checks.state(x), first);
        Checks.refuses("nothing is saved in the other", x, Checks.STATE, () -> x.restore(1));
        x.topUp(1, 100);
        x.pass(4);
        String second = Checks.state(x);
        Checks.is("save", x.save(1), 7);
        Checks.is("restore", x.restore(0), 3);
        Checks.is("first", Checks.state(x), first);
        x.pass(300);
        Checks.is("the slot keeps it", x.restore(0), 3);
        Checks.is("first", Checks.state(x), first);
        Checks.is("restore", x.restore(1), 7);
        Checks.is("second", Checks.state(x), second);
        Checks.is("saving replaces", x.save(0), 7);
        Checks.is("restore can be undone", x.undo(), 5);
        Checks.is("first", Checks.state(x), first);
        Checks.is("restore", x.restore(0), 7);
        Checks.is("second", Checks.state(x), second);
        Checks.is("undo", x.undo(), 5);
        Checks.is("undo of the restore before", x.undo(), 4);
        Checks.is("minute of the pass", x.minute(), 303);
        Checks.sentence("slot: 0 or 1");
        for (int slot : new int[] {-1, 2, Integer.MIN_VALUE, Integer.MAX_VALUE}) {
            Checks.refuses("save", x, Checks.INDEX, () -> x.save(slot));
            Checks.refuses("restore", x, Checks.INDEX, () -> x.restore(slot));
        }
        Checks.load(x, "gallery 150 9;");
        x.restore(1);
        Checks.is("restore across a load", Checks.state(x), second);
    }

    private static void promise63undo() {
        Replayed x = new Replayed();
        Checks.refuses("undo of nothing", x, Checks.STATE, () -> x.undo());
        x.printTube(0);
        x.setRoom(0);
        Checks.load(x, "gallery 20 4 oops");
        Checks.put(x, "gallery 30 4;");
        x.printTube(1);
        String output = Checks.output(x);
        Checks.is("undo", x.undo(), 0);
        Checks.is("the error stays", x.errorCode(), 1);
        Checks.is("the error stays", x.errorOffset(), 13);
        Checks.is("the output text stays", Checks.output(x), output);
        Checks.is("the input buffer stays", x.truncate(13), 13);
        Checks.is("room", x.roomDegrees(), 20);
        Checks.refuses("undo of nothing", x, Checks.STATE, () -> x.undo());
    }

    private static void promise63undoOfEachChange() {
        Replayed x = Checks.loaded(START + "dip 0 c;pass 1;");
        x.save(0);
        Runnable[] changes = {
            () -> x.mark(0),
            () -> x.erasePoint(0, 0),
            () -> x.lift(0),
            () -> x.dip(0, 1),
            () -> x.layThumb(0, 5),
            () -> x.topUp(0, 300),
            () -> x.setRoom(33),
            () -> x.setLeaky(0, true),
            () -> x.pass(100),
            () -> x.restore(0),
            () -> Checks.load(x, "gallery -5 3;spirit z 4;bath y 7;tube z 5 5 55 5;dip 0 y;"),
        };
        for (int i = 0; i < changes.length; i++) {
            String before = Checks.state(x);
            changes[i].run();
            String after = Checks.state(x);
            Checks.is("change " + i + " changes something", before.equals(after), false);
            x.undo();
            Checks.is("undo of change " + i, Checks.state(x), before);
            changes[i].run();
            Checks.is("change " + i + " once more", Checks.state(x), after);
        }
    }

    private static void promise63sixChanges() {
        Replayed x = Checks.loaded(START);
        for (int i = 1; i <= 20; i++) {
            x.setRoom(i);
        }
        for (int left = 5; left >= 0; left--) {
            Checks.is("left", x.undo(), left);
            Checks.is("room", x.roomDegrees(), 14 + left);
        }
        Checks.refuses("a seventh undo", x, Checks.STATE, () -> x.undo());
        x.setRoom(50);
        x.setRoom(60);
        Checks.is("undo", x.undo(), 1);
        x.setRoom(70);
        Checks.is("undo", x.undo(), 1);
        Checks.is("room", x.roomDegrees(), 50);
        Checks.is("undo", x.undo(), 0);
        Checks.is("room", x.roomDegrees(), 14);
    }
}
