import java.util.function.ToIntFunction;

/** "Undo", "Forecasts", the first state and the 512 calls of DOC.md: each sentence has a test of its own. */
public final class UndoEdgesTest {
    private record Named(String name, ToIntFunction<Replayed> call) {
    }

    // Tube 0 is in h, settled, with one point and a height without one; tube 1 is in the room.
    private static final String START = "gallery 20 1;spirit s 1;bath c 0;bath h 100;tube s 1 9 999 0;tube s 1 9 999 5;"
            + "dip 0 c;pass 1;mark 0;fill 0 3;dip 0 h;pass 1;";
    private static final Named[] CHANGES = {
        new Named("load", x -> Checks.load(x, "gallery -5 2;")),
        new Named("dip", x -> x.dip(0, 0)),
        new Named("lift", x -> x.lift(0)),
        new Named("mark", x -> x.mark(0)),
        new Named("erasePoint", x -> x.erasePoint(0, 0)),
        new Named("layThumb", x -> x.layThumb(0, 1)),
        new Named("topUp", x -> x.topUp(0, 1)),
        new Named("setRoom", x -> x.setRoom(-20)),
        new Named("setLeaky", x -> x.setLeaky(0, true) ? 1 : 0),
        new Named("pass", x -> x.pass(1)),
        new Named("restore", x -> x.restore(0)),
    };
    private static final Named[] CHANGES_TO_THE_SAME = {
        new Named("load", x -> Checks.load(x, START)),
        new Named("setRoom", x -> x.setRoom(20)),
        new Named("setLeaky", x -> x.setLeaky(0, false) ? 1 : 0),
        new Named("restore", x -> x.restore(1)),
    };
    /** On a prepared object each of these throws. */
    private static final Named[] REFUSED = {
        new Named("append", x -> appendAll(x)),
        new Named("truncate below", x -> x.truncate(-1)),
        new Named("truncate beyond", x -> x.truncate(14)),
        new Named("dip of no tube", x -> x.dip(2, 0)),
        new Named("dip into no bath", x -> x.dip(0, 2)),
        new Named("dip into the same bath", x -> x.dip(0, 1)),
        new Named("lift of no tube", x -> x.lift(2)),
        new Named("lift from the room", x -> x.lift(1)),
        new Named("mark of no tube", x -> x.mark(2)),
        new Named("mark in the room", x -> x.mark(1)),
        new Named("erase on no tube", x -> x.erasePoint(2, 0)),
        new Named("erase of no point", x -> x.erasePoint(0, 1)),
        new Named("erase below", x -> x.erasePoint(0, -1)),
        new Named("thumb on no tube", x -> x.layThumb(2, 1)),
        new Named("thumb for 0", x -> x.layThumb(0, 0)),
        new Named("thumb for 61", x -> x.layThumb(0, 61)),
        new Named("topUp of no tube", x -> x.topUp(2, 1)),
        new Named("topUp of 0", x -> x.topUp(0, 0)),
        new Named("topUp of 1000", x -> x.topUp(0, 1000)),
        new Named("topUp beyond 999", x -> x.topUp(0, 997)),
        new Named("setRoom below", x -> x.setRoom(-21)),
        new Named("setRoom beyond", x -> x.setRoom(151)),
        new Named("setLeaky of no tube", x -> x.setLeaky(2, true) ? 1 : 0),
        new Named("setLeaky below", x -> x.setLeaky(-1, true) ? 1 : 0),
        new Named("pass of 0", x -> x.pass(0)),
        new Named("pass of 301", x -> x.pass(301)),
        new Named("save below", x -> x.save(-1)),
        new Named("save beyond", x -> x.save(2)),
        new Named("restore below", x -> x.restore(-1)),
        new Named("restore beyond", x -> x.restore(2)),
        new Named("printTube of none", x -> x.printTube(2)),
        new Named("outputByte beyond", x -> x.outputByte(7)),
        new Named("reading without a scale", x -> x.reading(0)),
        new Named("scaleAt without a scale", x -> x.scaleAt(0, 5)),
        new Named("heightAfter 301", x -> x.heightAfter(0, 301)),
        new Named("lossAfter 301", x -> x.lossAfter(301)),
        new Named("minutesUntilHeight 1000", x -> x.minutesUntilHeight(0, 1000)),
    };

    public static void main(String[] args) {
        whatIsAChange();
        changesToTheSame();
        whatIsNoChange();
        refusedCallsChangeNothing();
        undoOnNone();
        refusedRestoreAndUndo();
        changesInTexts();
        latestSix();
        goneRoundTheRows();
        undoneOnce();
        undoAcrossLoads();
        notBroughtBack();
        slots();
        slotsAreKept();
        restoreIsAChange();
        restoreIsUndoneWithOthers();
        questionsChangeNothing();
        onlyMinutesPass();
        firstState();
        parseError();
        fiveHundredAndTwelveCalls();
        Checks.finish("UndoEdgesTest");
    }

    /** The last call of append is one too many for the full buffer; the rest is taken back. */
    private static int appendAll(Replayed x) {
        int length = 13;
        try {
            for (int i = 0; i < 30; i++) {
                length = x.append(0, 0, 0, 0, 0);
            }
        } catch (IllegalStateException e) {
            x.truncate(13);
            throw e;
        }
        return length;
    }

    /** Two changes can be undone; slot 0 holds another state, slot 1 this one; 13 bytes wait; a tube is printed. */
    private static Replayed prepared() {
        Replayed x = Checks.loaded(START);
        x.save(0);
        x.topUp(1, 1);
        x.save(1);
        x.printTube(1);
        Checks.put(x, "gallery 77 3;");
        return x;
    }

    private static void whatIsAChange() {
        Checks.sentence("These methods are changes: load if it succeeds, dip, lift, mark, erasePoint, layThumb,"
                + " topUp, setRoom, setLeaky, pass and restore.");
        for (Named change : CHANGES) {
            Replayed x = prepared();
            x.truncate(0);
            String before = Checks.state(x);
            change.call.applyAsInt(x);
            String after = Checks.state(x);
            Checks.is(change.name + " does something", after.equals(before), false);
            Checks.is(change.name + " is undone, two are left", x.undo(), 2);
            Checks.is(change.name + " is undone", Checks.state(x), before);
            change.call.applyAsInt(x);
            Checks.is(change.name + " once more", Checks.state(x), after);
        }
    }

    private static void changesToTheSame() {
        Checks.sentence("This is a change.");
        for (Named change : CHANGES_TO_THE_SAME) {
            Replayed x = prepared();
            x.truncate(0);
            change.call.applyAsInt(x);
            Checks.is(change.name + " is undone, two are left", x.undo(), 2);
        }
        Replayed y = prepared();
        y.layThumb(0, 5);
        y.layThumb(0, 5);
        Checks.is("the same thumb", y.undo(), 3);
    }

    private static void whatIsNoChange() {
        Checks.sentence("These methods are changes");
        Replayed x = new Replayed();
        Checks.load(x, "gallery 20 1");
        x.append(0, 0, 0, 0, 0);
        x.truncate(7);
        x.save(0);
        x.save(1);
        x.printTube(0);
        Checks.state(x);
        Checks.refuses("nothing can be undone", x, Checks.STATE, () -> x.undo());
    }

    private static void refusedCallsChangeNothing() {
        Checks.sentence("A call that throws an exception changes nothing.");
        for (Named refused : REFUSED) {
            Replayed x = prepared();
            Replayed twin = prepared();
            Checks.is(refused.name + " throws", Checks.thrown(() -> refused.call.applyAsInt(x)) != null, true);
            Checks.is(refused.name + ": answers", Checks.answers(x), Checks.answers(twin));
            Checks.is(refused.name + ": input buffer", x.truncate(13), 13);
            Checks.is(refused.name + ": undo", x.undo(), 1);
            twin.undo();
            Checks.is(refused.name + ": undone", Checks.state(x), Checks.state(twin));
            for (int slot = 0; slot <= 1; slot++) {
                x.restore(slot);
                twin.restore(slot);
                Checks.is(refused.name + ": slot " + slot, Checks.state(x), Checks.state(twin));
            }
            Checks.is(refused.name + ": bytes", x.load(), 0);
            Checks.is(refused.name + ": bytes", x.roomDegrees(), 77);
        }
    }

    private static void undoOnNone() {
        Checks.sentence("Throws IllegalStateException if there is no change to undo");
        Replayed x = new Replayed();
        Checks.refuses("on a new object", x, Checks.STATE, () -> x.undo());
        x.setRoom(7);
        Checks.is("one", x.undo(), 0);
        Checks.refuses("all are undone", x, Checks.STATE, () -> x.undo());
        x.setRoom(8);
        Checks.is("one again", x.undo(), 0);
    }

    private static void refusedRestoreAndUndo() {
        Checks.sentence("A call that throws an exception changes nothing.");
        Replayed x = Checks.loaded(START);
        Checks.refuses("restore of nothing", x, Checks.STATE, () -> x.restore(0));
        Checks.is("it is no change", x.undo(), 0);
        Checks.refuses("undo of nothing", x, Checks.STATE, () -> x.undo());
        x.setRoom(9);
        Checks.is("it does not spoil the next one", x.undo(), 0);
        Checks.is("it does not spoil the next one", x.roomDegrees(), 20);
        Replayed y = Checks.loaded(START + "thumb 0 5;");
        Checks.refuses("dip with the thumb", y, Checks.STATE, () -> y.dip(0, 0));
        Checks.refuses("mark with the thumb", y, Checks.STATE, () -> y.mark(0));
        Checks.is("only the load is a change", y.undo(), 0);
    }

    private static void changesInTexts() {
        Checks.sentence("These methods are changes: load if it succeeds");
        Replayed x = new Replayed();
        Checks.load(x, START + "room 5;pass 3;topUp");
        Checks.refuses("a text with an error is none", x, Checks.STATE, () -> x.undo());
        Checks.load(x, START + "room 5;pass 3;");
        Checks.is("a text is one change", x.undo(), 0);
        Checks.is("the first state", x.minute(), 82);
    }

    private static void latestSix() {
        Checks.sentence("The latest 6 changes can be undone, the latest one first.");
        for (int changes = 0; changes <= 9; changes++) {
            Replayed x = new Replayed();
            for (int i = 1; i <= changes; i++) {
                x.setRoom(30 + i);
            }
            int left = Math.min(changes, 6);
            for (int i = 1; i <= left; i++) {
                Checks.is("left of " + changes, x.undo(), left - i);
                Checks.is("room", x.roomDegrees(), changes == i ? 20 : 30 + changes - i);
            }
            Checks.refuses("no more of " + changes, x, Checks.STATE, () -> x.undo());
        }
    }

    private static void goneRoundTheRows() {
        Checks.sentence("The latest 6 changes can be undone");
        for (int back = 1; back <= 6; back++) {
            Replayed x = new Replayed();
            for (int i = 1; i <= 8; i++) {
                x.setRoom(i);
            }
            for (int i = 0; i < back; i++) {
                x.undo();
            }
            for (int i = 1; i <= 7; i++) {
                x.setRoom(100 + i);
            }
            for (int left = 5; left >= 0; left--) {
                Checks.is("left", x.undo(), left);
                Checks.is("room", x.roomDegrees(), 101 + left);
            }
            Checks.refuses("a seventh", x, Checks.STATE, () -> x.undo());
        }
    }

    private static void undoneOnce() {
        Checks.sentence("Undoes the latest change that has not been undone.");
        Replayed x = Checks.loaded(START);
        for (int i = 1; i <= 3; i++) {
            x.setRoom(i);
        }
        Checks.is("undo", x.undo(), 3);
        Checks.is("undo", x.undo(), 2);
        Checks.is("room", x.roomDegrees(), 1);
        x.setRoom(9);
        Checks.is("undo of the new one", x.undo(), 2);
        Checks.is("room", x.roomDegrees(), 1);
        Checks.is("the one before it", x.undo(), 1);
        Checks.is("room", x.roomDegrees(), 20);
    }

    private static void undoAcrossLoads() {
        Checks.sentence("The saved states, the output text and the earlier changes that can be undone are kept.");
        Replayed x = new Replayed();
        for (int i = 1; i <= 5; i++) {
            x.setRoom(i);
        }
        x.save(0);
        x.printTube(0);
        String output = Checks.output(x);
        Checks.is("load", Checks.load(x, "gallery 90 1;"), 0);
        Checks.is("the output text", Checks.output(x), output);
        for (int left = 5; left >= 0; left--) {
            Checks.is("undo", x.undo(), left);
        }
        Checks.is("the room at first", x.roomDegrees(), 20);
        x.restore(0);
        Checks.is("the saved room", x.roomDegrees(), 5);
    }

    private static void notBroughtBack() {
        Checks.sentence("Undoing a change brings back everything but the input buffer, the error, the output text"
                + " and the saved states.");
        Replayed x = Checks.loaded(START);
        x.printTube(1);
        x.setRoom(33);
        x.save(0);
        Checks.load(x, "gallery 999");
        x.printTube(0);
        Checks.put(x, "gallery 44 1;");
        Checks.is("undo", x.undo(), 1);
        Checks.is("the room is brought back", x.roomDegrees(), 20);
        Checks.is("not the output text", Checks.output(x), "s 3/999");
        Checks.is("not the error", x.errorCode(), 2);
        Checks.is("not the error", x.errorOffset(), 8);
        x.restore(0);
        Checks.is("not the saved state", x.roomDegrees(), 33);
        Checks.is("not the input buffer", x.load(), 0);
        Checks.is("not the input buffer", x.roomDegrees(), 44);
        x.undo();
        Checks.is("not the error of a load", x.errorCode(), 0);
        Checks.is("not the emptied buffer", x.append(0, 0, 0, 0, 0), 20);
    }

    // ---- Saved states ----

    private static void slots() {
        Checks.sentence("Saves everything that undo would bring back in a slot and replaces what was saved there.");
        Replayed x = Checks.loaded(START + "thumb 1 9;leak 0;pass 9;");
        String first = Checks.state(x);
        Checks.is("save", x.save(0), 11);
        Checks.load(x, "gallery -5 2;bath z 7;");
        String second = Checks.state(x);
        Checks.is("save", x.save(1), 0);
        x.pass(300);
        Checks.is("restore", x.restore(0), 11);
        Checks.is("everything", Checks.state(x), first);
        Checks.is("restore", x.restore(1), 0);
        Checks.is("everything", Checks.state(x), second);
        x.save(0);
        x.restore(0);
        Checks.is("replaced", Checks.state(x), second);
    }

    private static void slotsAreKept() {
        Checks.sentence("Restores what was saved in a slot. The slot keeps it.");
        Replayed x = Checks.loaded(START);
        String first = Checks.state(x);
        x.save(0);
        for (Named change : CHANGES) {
            change.call.applyAsInt(x);
            x.restore(0);
            Checks.is("after " + change.name, Checks.state(x), first);
        }
        x.setRoom(50);
        x.undo();
        x.undo();
        x.restore(0);
        Checks.is("after undo", Checks.state(x), first);
    }

    private static void restoreIsAChange() {
        Checks.sentence("This is a change, and earlier changes can still be undone.");
        Replayed x = new Replayed();
        x.save(0);
        x.setRoom(1);
        x.setRoom(2);
        x.restore(0);
        Checks.is("restored", x.roomDegrees(), 20);
        Checks.is("undo of restore", x.undo(), 2);
        Checks.is("room", x.roomDegrees(), 2);
        Checks.is("undo before it", x.undo(), 1);
        Checks.is("room", x.roomDegrees(), 1);
    }

    private static void restoreIsUndoneWithOthers() {
        Checks.sentence("This is a change, and earlier changes can still be undone.");
        Replayed x = new Replayed();
        x.save(1);
        for (int i = 1; i <= 6; i++) {
            x.setRoom(i);
        }
        x.restore(1);
        for (int left = 5; left >= 0; left--) {
            Checks.is("undo", x.undo(), left);
        }
        Checks.is("the first change can't be undone any more", x.roomDegrees(), 1);
        Checks.refuses("a seventh", x, Checks.STATE, () -> x.undo());
    }

    // ---- Forecasts, the first state, constants, 512 calls ----

    private static void questionsChangeNothing() {
        Checks.sentence("Questions change nothing.");
        for (String text : new String[] {"", "leak 0;leak 1;thumb 1 30;", "mark 0;dip 0 c;", "lift 0;room 150;"}) {
            Replayed x = Checks.loaded(START + text);
            Replayed twin = Checks.loaded(START + text);
            for (int minutes : new int[] {0, 1, 30, 300}) {
                for (int tube = 0; tube < 2; tube++) {
                    x.heightAfter(tube, minutes);
                    x.temperatureAfter(tube, minutes);
                    x.minutesUntilHeight(tube, 999 - minutes);
                    x.minutesUntilSettled(tube);
                    x.minutesUntilSpill(tube);
                    x.lossAfter(minutes);
                }
            }
            Checks.is("after forecasts", Checks.answers(x), Checks.answers(twin));
            Checks.is("after all questions", Checks.answers(x), Checks.answers(twin));
            Checks.is("the load can be undone", x.undo(), 0);
            Checks.is("the first state", Checks.state(x), Checks.state(new Replayed()));
        }
    }

    private static void onlyMinutesPass() {
        Checks.sentence("A question about the future assumes that only minutes pass.");
        Replayed x = Checks.loaded("gallery 20 4;spirit s 40;bath h 150;tube s 50 9 300 99;tube s 9 9 99 5;leak 0;"
                + "leak 1;dip 0 h;dip 1 h;thumb 1 7;pass 3;");
        int[] heights = new int[31];
        int[] tenths = new int[31];
        int[] losses = new int[31];
        for (int minutes = 0; minutes <= 30; minutes++) {
            heights[minutes] = x.heightAfter(0, minutes);
            tenths[minutes] = x.temperatureAfter(1, minutes);
            losses[minutes] = x.lossAfter(minutes);
        }
        int lost = 0;
        for (int minutes = 0; minutes <= 30; minutes++) {
            Checks.is("height after " + minutes, x.height(0), heights[minutes]);
            Checks.is("temperature after " + minutes, x.temperatureOf(1), tenths[minutes]);
            Checks.is("losses after " + minutes, lost, losses[minutes]);
            lost += x.pass(1);
        }
    }

    private static void firstState() {
        Checks.sentence("Before the first successful call of load the state is as if this text had been loaded:"
                + " \"gallery 20 4;spirit wine 10;spirit oil 6;bath ice 0;bath boil 100;tube wine 20 2 300 5;tube"
                + " oil 30 3 90 8;dip 0 ice;dip 1 boil;pass 40;mark 0;mark 1;dip 0 boil;pass 40;mark 0;lift 0;leak"
                + " 1;thumb 1 3;pass 2;\".");
        String text = "gallery 20 4;spirit wine 10;spirit oil 6;bath ice 0;bath boil 100;tube wine 20 2 300 5;"
                + "tube oil 30 3 90 8;dip 0 ice;dip 1 boil;pass 40;mark 0;mark 1;dip 0 boil;pass 40;mark 0;lift 0;"
                + "leak 1;thumb 1 3;pass 2;";
        String first = Checks.state(Checks.loaded(text));
        Replayed x = new Replayed();
        Checks.is("at first", Checks.state(x), first);
        Checks.load(x, "gallery 20 4;duke;");
        Checks.is("after a load with an error", Checks.state(x), first);
        x.load();
        Checks.is("after a load of nothing", Checks.state(x), first);
        Checks.load(x, "gallery 20 4;");
        Checks.is("after a load", Checks.state(x).equals(first), false);
        x.undo();
        Checks.is("after its undo", Checks.state(x), first);
        Checks.is("the rest of that text can go on", x.pass(1) + x.thumbLeft() + x.minute(), 83);
    }

    private static void parseError() {
        Checks.sentence("The constants: PARSE_ERROR = -7: The result of load if the text has an error.");
        Replayed x = new Replayed();
        Checks.is("the constant", ThermoscopeGallery.PARSE_ERROR, -7);
        Checks.is("of an empty text", x.load(), -7);
        Checks.is("of a text with an error", Checks.load(x, "gallery 20 4;mark 0;"), -7);
        Checks.is("of a text without one", Checks.load(x, "gallery 20 4;"), 0);
    }

    private static void fiveHundredAndTwelveCalls() {
        Checks.sentence("An object is used for at most 512 calls after it has been made; what later calls answer is"
                + " free.");
        ThermoscopeGallery passing = new ThermoscopeGallery();
        int lost = 0;
        for (int i = 1; i <= 511; i++) {
            lost += passing.pass(300);
        }
        Checks.is("what can be lost is lost", lost, 8);
        Checks.is("the last call", passing.minute(), 82 + 511 * 300);
        ThermoscopeGallery undoing = new ThermoscopeGallery();
        for (int i = 1; i <= 255; i++) {
            undoing.setRoom(i % 150);
            undoing.setRoom(i % 151);
        }
        undoing.undo();
        Checks.is("the last call", undoing.undo(), 4);
        ThermoscopeGallery filling = new ThermoscopeGallery();
        for (int i = 1; i <= 255; i++) {
            filling.append(0, 0, 0, 0, 0);
            filling.truncate(0);
        }
        filling.load();
        Checks.is("the last call", filling.append(0, 0, 0, 0, 0), 20);
    }
}
