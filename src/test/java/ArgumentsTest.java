import java.io.IOException;
import java.nio.file.Files;
import java.nio.file.Path;
import java.util.Set;
import java.util.TreeSet;

/**
 * Every "Throws" sentence of the promises: each parameter at its least and greatest value, and just and far beyond
 * both, on objects that have none, one and the most of what it numbers.
 */
public final class ArgumentsTest {
    private interface Call {
        int on(Replayed x, int argument);
    }

    private record Named(String name, Call call) {
    }

    private static final String GALLERY = "gallery 20 1;spirit s 1;bath c 0;";
    private static final String TWO_TUBES = "gallery 20 1;spirit s 1;bath c 0;bath h 100;tube s 1 9 999 5;"
            + "tube s 1 9 999 5;dip 0 c;pass 1;";
    private static final Named[] OF_TUBE = {
        new Named("spiritOf", (x, tube) -> x.spiritOf(tube)),
        new Named("fillOf", (x, tube) -> x.fillOf(tube)),
        new Named("temperatureOf", (x, tube) -> x.temperatureOf(tube)),
        new Named("surroundingsOf", (x, tube) -> x.surroundingsOf(tube)),
        new Named("isSettled", (x, tube) -> x.isSettled(tube) ? 1 : 0),
        new Named("isLeaky", (x, tube) -> x.isLeaky(tube) ? 1 : 0),
        new Named("bathOf", (x, tube) -> x.bathOf(tube)),
        new Named("height", (x, tube) -> x.height(tube)),
        new Named("freeHeightAt", (x, tube) -> x.freeHeightAt(tube, 0)),
        new Named("greatestTemperature", (x, tube) -> x.greatestTemperature(tube)),
        new Named("pointCount", (x, tube) -> x.pointCount(tube)),
        new Named("pointDegrees", (x, tube) -> x.pointDegrees(tube, 0)),
        new Named("pointHeight", (x, tube) -> x.pointHeight(tube, 0)),
        new Named("hasScale", (x, tube) -> x.hasScale(tube) ? 1 : 0),
        new Named("reading", (x, tube) -> x.reading(tube)),
        new Named("readingError", (x, tube) -> x.readingError(tube)),
        new Named("scaleAt", (x, tube) -> x.scaleAt(tube, 0)),
        new Named("fitError", (x, tube) -> x.fitError(tube)),
        new Named("sensitivity", (x, tube) -> x.sensitivity(tube)),
        new Named("markRefusal", (x, tube) -> x.markRefusal(tube)),
        new Named("heightAfter", (x, tube) -> x.heightAfter(tube, 0)),
        new Named("temperatureAfter", (x, tube) -> x.temperatureAfter(tube, 0)),
        new Named("minutesUntilSettled", (x, tube) -> x.minutesUntilSettled(tube)),
        new Named("minutesUntilSpill", (x, tube) -> x.minutesUntilSpill(tube)),
        new Named("minutesUntilHeight", (x, tube) -> x.minutesUntilHeight(tube, 0)),
        new Named("disagreement, first", (x, tube) -> x.disagreement(tube, 0)),
        new Named("disagreement, second", (x, tube) -> x.disagreement(0, tube)),
        new Named("bathsToMark", (x, tube) -> x.bathsToMark(tube)),
        new Named("lift", (x, tube) -> x.lift(tube)),
        new Named("mark", (x, tube) -> x.mark(tube)),
        new Named("erasePoint", (x, tube) -> x.erasePoint(tube, 0)),
        new Named("layThumb", (x, tube) -> x.layThumb(tube, 1)),
        new Named("topUp", (x, tube) -> x.topUp(tube, 1)),
        new Named("setLeaky", (x, tube) -> x.setLeaky(tube, true) ? 1 : 0),
        new Named("printTube", (x, tube) -> x.printTube(tube)),
    };
    private static final Named[] OF_BATH = {
        new Named("bathDegrees", (x, bath) -> x.bathDegrees(bath)),
        new Named("tubesIn", (x, bath) -> x.tubesIn(bath)),
    };
    private static final Named[] DIPS_OF_TUBE = {
        new Named("dipRefusal", (x, tube) -> x.dipRefusal(tube, 0)),
        new Named("dip", (x, tube) -> x.dip(tube, 0)),
    };
    private static final Named[] DIPS_INTO_BATH = {
        new Named("dipRefusal", (x, bath) -> x.dipRefusal(0, bath)),
        new Named("dip", (x, bath) -> x.dip(0, bath)),
    };
    private static final Named[] OF_SPIRIT = {
        new Named("spiritInTubes", (x, spirit) -> x.spiritInTubes(spirit)),
        new Named("spiritLost", (x, spirit) -> x.spiritLost(spirit)),
    };
    private static final Named[] OF_POINT = {
        new Named("pointDegrees", (x, point) -> x.pointDegrees(0, point)),
        new Named("pointHeight", (x, point) -> x.pointHeight(0, point)),
        new Named("erasePoint", (x, point) -> x.erasePoint(0, point)),
    };
    private static final Named[] OF_SCALE = {
        new Named("reading", (x, tube) -> x.reading(tube)),
        new Named("readingError", (x, tube) -> x.readingError(tube)),
        new Named("scaleAt", (x, tube) -> x.scaleAt(tube, 999)),
        new Named("fitError", (x, tube) -> x.fitError(tube)),
        new Named("disagreement, first", (x, tube) -> x.disagreement(tube, 0)),
        new Named("disagreement, second", (x, tube) -> x.disagreement(0, tube)),
        new Named("disagreement, both", (x, tube) -> x.disagreement(tube, tube)),
    };

    private static final Set<String> ASKED = new TreeSet<>();

    public static void main(String[] args) throws IOException {
        tubes();
        baths();
        tubesAndBaths();
        spirits();
        points();
        scales();
        ranges();
        lengths();
        fullBuffers();
        slots();
        outputBytes();
        refusedDips();
        refusedLifts();
        refusedMarks();
        refusedTopUps();
        refusedUndos();
        oneWithoutScale();
        everyThrowsSentence();
        Checks.finish("ArgumentsTest");
    }

    /** What is asked next of this method is the latest sentence. */
    private static void asked(String name) {
        ASKED.add(name.split("[ ,]")[0] + ": " + Checks.sentence());
    }

    private static void everyThrowsSentence() throws IOException {
        Checks.sentence("");
        Set<String> due = new TreeSet<>();
        String promise = "";
        for (String line : Files.readAllLines(Path.of("../shared/DOC.md"))) {
            if (line.startsWith("## Promise ")) {
                promise = line.replaceAll(".*: ", "");
            } else if (line.startsWith("Throws ")) {
                due.add(promise + ": " + line.replace("`", ""));
            }
        }
        Checks.is("sentences", due.size() > 65, true);
        due.removeAll(ASKED);
        Checks.is("sentences of which nothing is asked", due.toString(), "[]");
    }

    private static String rows(String row, int count) {
        StringBuilder text = new StringBuilder();
        for (int i = 0; i < count; i++) {
            text.append(row.replace('#', (char) ('k' + i)));
        }
        return text.toString();
    }

    /** Numbers from 0 to one less than the count are allowed; what else the call may refuse is not asked here. */
    private static void numbered(Named[] calls, String text, int count, Class<? extends RuntimeException> due) {
        for (Named named : calls) {
            asked(named.name);
            for (int none : new int[] {Integer.MIN_VALUE, -2, -1, count, count + 1, 9, Integer.MAX_VALUE}) {
                Replayed x = Checks.loaded(text);
                String what = named.name + " of " + none + ", where there are " + count;
                Checks.throwing(what, due, () -> named.call.on(x, none));
                Checks.is(what + ": changes", x.undo(), 0);
            }
            for (int one = 0; one < count; one++) {
                int number = one;
                Replayed x = Checks.loaded(text);
                Class<?> thrown = Checks.thrown(() -> named.call.on(x, number));
                Checks.is(named.name + " of " + one + ", where there are " + count, thrown == due, false);
            }
        }
    }

    private static void tubes() {
        Checks.sentence("Throws IndexOutOfBoundsException if there is no such tube");
        for (int count : new int[] {0, 1, 8}) {
            numbered(OF_TUBE, GALLERY + rows("tube s 1 9 999 5;", count), count, Checks.INDEX);
        }
    }

    private static void baths() {
        Checks.sentence("Throws IndexOutOfBoundsException if there is no such bath");
        for (int count : new int[] {0, 1, 4}) {
            numbered(OF_BATH, "gallery 20 1;" + rows("bath # 5;", count), count, Checks.INDEX);
        }
    }

    private static void tubesAndBaths() {
        Checks.sentence("Throws IndexOutOfBoundsException if there is no such tube or bath");
        for (int count : new int[] {0, 1, 8}) {
            numbered(DIPS_OF_TUBE, GALLERY + rows("tube s 1 9 999 5;", count), count, Checks.INDEX);
        }
        for (int count : new int[] {0, 1, 4}) {
            String text = "gallery 20 1;spirit s 1;tube s 1 9 999 5;" + rows("bath # 5;", count);
            numbered(DIPS_INTO_BATH, text, count, Checks.INDEX);
        }
    }

    private static void spirits() {
        Checks.sentence("Throws IndexOutOfBoundsException if there is no such spirit");
        for (int count : new int[] {0, 1, 5}) {
            numbered(OF_SPIRIT, "gallery 20 1;" + rows("spirit # 1;", count), count, Checks.INDEX);
        }
    }

    private static void points() {
        Checks.sentence("Throws NoSuchElementException if it has no such point");
        String text = "gallery 20 1;spirit s 1;bath k 0;bath l 30;bath m 60;bath n 90;tube s 1 9 999 5;";
        for (int count = 0; count <= 4; count++) {
            numbered(OF_POINT, text + rows("dip 0 #;pass 1;mark 0;fill 0 1;", count), count, Checks.ELEMENT);
        }
    }

    private static void scales() {
        Checks.sentence("Throws NoSuchElementException if it has no scale");
        String two = "dip 0 c;pass 1;mark 0;fill 0 1;dip 0 h;pass 1;mark 0;";
        Replayed x = Checks.loaded("gallery 20 1;spirit s 1;bath c 0;bath h 100;tube s 1 9 999 5;tube s 1 9 999 5;"
                + "tube s 1 9 999 5;dip 1 c;pass 1;mark 1;" + two + two.replace(" 0", " 2"));
        for (Named named : OF_SCALE) {
            asked(named.name);
            Checks.throwing(named.name + " with one point", Checks.ELEMENT, () -> named.call.on(x, 1));
            Checks.throwing(named.name + " with two points", null, () -> named.call.on(x, 0));
            Checks.throwing(named.name + " with two points", null, () -> named.call.on(x, 2));
        }
        x.erasePoint(1, 0);
        x.erasePoint(2, 1);
        for (Named named : OF_SCALE) {
            Checks.throwing(named.name + " with no point", Checks.ELEMENT, () -> named.call.on(x, 1));
            Checks.throwing(named.name + " with one point left", Checks.ELEMENT, () -> named.call.on(x, 2));
        }
    }

    private static void range(String name, int least, int most, Call call) {
        asked(name);
        String text = "gallery 20 1;spirit s 1;bath c 0;bath h 100;tube s 1 9 999 0;dip 0 c;pass 1;mark 0;fill 0 1;"
                + "dip 0 h;pass 1;mark 0;leak 0;pass 10;";
        for (int wrong : new int[] {Integer.MIN_VALUE, least - 2, least - 1, most + 1, most + 2, Integer.MAX_VALUE}) {
            Replayed x = Checks.loaded(text);
            Checks.throwing(name + " " + wrong, Checks.ARGUMENT, () -> call.on(x, wrong));
            Checks.is(name + " " + wrong + ": changes", x.undo(), 0);
        }
        for (int right : new int[] {least, least + 1, most - 1, most}) {
            Replayed x = Checks.loaded(text);
            Checks.throwing(name + " " + right, null, () -> call.on(x, right));
        }
    }

    private static void ranges() {
        Checks.sentence("Throws IllegalArgumentException if tenths is out of range");
        range("freeHeightAt", -200, 1500, (x, tenths) -> x.freeHeightAt(0, tenths));
        Checks.sentence("Throws IllegalArgumentException if height is out of range");
        range("scaleAt", 0, 999, (x, height) -> x.scaleAt(0, height));
        range("minutesUntilHeight", 0, 999, (x, height) -> x.minutesUntilHeight(0, height));
        Checks.sentence("Throws IllegalArgumentException if minutes is out of range");
        range("heightAfter", 0, 300, (x, minutes) -> x.heightAfter(0, minutes));
        range("temperatureAfter", 0, 300, (x, minutes) -> x.temperatureAfter(0, minutes));
        range("lossAfter", 0, 300, (x, minutes) -> x.lossAfter(minutes));
        range("layThumb", 1, 60, (x, minutes) -> x.layThumb(0, minutes));
        range("pass", 1, 300, (x, minutes) -> x.pass(minutes));
        Checks.sentence("Throws IllegalArgumentException if amount is out of range");
        range("topUp", 1, 999, (x, amount) -> x.topUp(0, amount));
        Checks.sentence("Throws IllegalArgumentException if degrees is out of range");
        range("setRoom", -20, 150, (x, degrees) -> x.setRoom(degrees));
    }

    private static void lengths() {
        Checks.sentence("Throws IllegalArgumentException if length is negative or greater than the current length");
        asked("truncate");
        for (int current : new int[] {0, 1, 20, 599, 600}) {
            for (int wrong : new int[] {Integer.MIN_VALUE, -1, current + 1, 601, Integer.MAX_VALUE}) {
                Replayed x = new Replayed();
                Checks.put(x, rows(" ", current));
                Checks.throwing("truncate " + wrong + " of " + current, Checks.ARGUMENT, () -> x.truncate(wrong));
                Checks.is("the length stays", x.truncate(current), current);
            }
            for (int length : new int[] {0, current / 2, current}) {
                Replayed x = new Replayed();
                Checks.put(x, rows(" ", current));
                Checks.is("truncate", x.truncate(length), length);
                Checks.throwing("what was cut", Checks.ARGUMENT, () -> x.truncate(length + 1));
            }
        }
    }

    private static void slots() {
        Checks.sentence("Throws IndexOutOfBoundsException if there is no such slot");
        numbered(new Named[] {new Named("save", (x, slot) -> x.save(slot))}, GALLERY, 2, Checks.INDEX);
        numbered(new Named[] {new Named("restore", (x, slot) -> x.restore(slot))}, GALLERY, 2, Checks.INDEX);
        Checks.sentence("Throws IllegalStateException if nothing is saved there");
        asked("restore");
        for (int slot = 0; slot <= 1; slot++) {
            int one = slot;
            Replayed x = Checks.loaded(GALLERY);
            Checks.refuses("restore of nothing", x, Checks.STATE, () -> x.restore(one));
            x.save(1 - one);
            Checks.refuses("the other one is saved", x, Checks.STATE, () -> x.restore(one));
            x.save(one);
            Checks.throwing("saved", null, () -> x.restore(one));
        }
    }

    private static void outputBytes() {
        Checks.sentence("Throws NoSuchElementException if there is no such byte");
        asked("outputByte");
        Replayed x = Checks.loaded(GALLERY + "spirit wxyz 1;tube wxyz 1 9 999 999;tube s 1 9 10 5;");
        for (int index : new int[] {Integer.MIN_VALUE, -1, 0, 1, Integer.MAX_VALUE}) {
            Checks.throwing("an empty text", Checks.ELEMENT, () -> x.outputByte(index));
        }
        int length = x.printTube(0);
        Checks.is("the last byte", x.outputByte(length - 1), '9');
        for (int index : new int[] {Integer.MIN_VALUE, -1, length, length + 1, Integer.MAX_VALUE}) {
            Checks.throwing("a text", Checks.ELEMENT, () -> x.outputByte(index));
        }
        int shorter = x.printTube(1);
        Checks.is("shorter", shorter < length, true);
        for (int i = shorter; i <= length; i++) {
            int index = i;
            Checks.throwing("a shorter text", Checks.ELEMENT, () -> x.outputByte(index));
        }
        Checks.throwing("refused", Checks.INDEX, () -> x.printTube(2));
        Checks.is("a refused call keeps the text", Checks.output(x), "s 5/10");
    }

    private static void fullBuffers() {
        Checks.sentence("Throws IllegalStateException if the buffer would hold more than 600 bytes");
        asked("append");
        for (int current : new int[] {0, 1, 20, 579, 580, 581, 582, 599, 600}) {
            Replayed x = new Replayed();
            Checks.put(x, rows(" ", current));
            Class<? extends RuntimeException> due = current > 580 ? Checks.STATE : null;
            Checks.throwing("append to " + current, due, () -> x.append(0, 0, 0, 0, 0));
            int length = current > 580 ? current : current + 20;
            Checks.is("the length", x.truncate(length), length);
            Checks.throwing("not longer", Checks.ARGUMENT, () -> x.truncate(length + 1));
        }
    }

    private static void refuses(String what, String text, Named... calls) {
        for (Named named : calls) {
            asked(named.name);
            Replayed x = Checks.loaded(text);
            Checks.refuses(named.name + " " + what, x, Checks.STATE, () -> named.call.on(x, 0));
        }
    }

    private static void refusedDips() {
        Checks.sentence("Throws IllegalStateException if dipping is refused");
        Named dip = new Named("dip into c", (x, tube) -> x.dip(tube, 0));
        Named other = new Named("dip into h", (x, tube) -> x.dip(tube, 1));
        refuses("in c", TWO_TUBES, dip);
        refuses("in h", TWO_TUBES + "dip 0 h;", other);
        refuses("with the thumb", TWO_TUBES + "thumb 0 1;", dip, other);
        refuses("with the thumb, in the room", TWO_TUBES + "lift 0;thumb 0 60;", dip, other);
        Checks.throwing("in c", null, () -> Checks.loaded(TWO_TUBES).dip(0, 1));
    }

    private static void refusedLifts() {
        Checks.sentence("Throws IllegalStateException if it is in the room");
        Named lift = new Named("lift", (x, tube) -> x.lift(tube));
        refuses("lifted before", TWO_TUBES + "lift 0;", lift);
        refuses("at first", "gallery 20 1;spirit s 1;bath c 0;tube s 1 9 999 5;", lift);
        refuses("without baths", "gallery 20 1;spirit s 1;tube s 1 9 999 5;", lift);
        Checks.throwing("in the first bath", null, () -> Checks.loaded(TWO_TUBES).lift(0));
    }

    private static void refusedMarks() {
        Checks.sentence("Throws IllegalStateException if marking is refused");
        Named mark = new Named("mark", (x, tube) -> x.mark(tube));
        refuses("in the room", TWO_TUBES + "lift 0;", mark);
        refuses("not settled", TWO_TUBES + "dip 0 h;", mark);
        refuses("with the thumb", TWO_TUBES + "thumb 0 1;", mark);
        refuses("with the degrees", TWO_TUBES + "mark 0;fill 0 1;", mark);
        refuses("with the height", TWO_TUBES + "mark 0;dip 0 h;pass 1;", mark);
        Checks.throwing("in c", null, () -> Checks.loaded(TWO_TUBES).mark(0));
    }

    private static void refusedTopUps() {
        Checks.sentence("Throws IllegalStateException if the fill would be greater than 999");
        Named least = new Named("topUp of 1", (x, tube) -> x.topUp(tube, 1));
        Named most = new Named("topUp of 999", (x, tube) -> x.topUp(tube, 999));
        refuses("when it is full", TWO_TUBES + "fill 0 994;", least, most);
        refuses("when it has 5", TWO_TUBES, most);
        Checks.throwing("998", null, () -> Checks.loaded(TWO_TUBES + "fill 0 993;").topUp(0, 1));
    }

    private static void refusedUndos() {
        Checks.sentence("Throws IllegalStateException if there is no change to undo");
        asked("undo");
        Replayed x = Checks.loaded(TWO_TUBES);
        Checks.is("the load", x.undo(), 0);
        for (int i = 0; i < 2; i++) {
            Checks.refuses("no more", x, Checks.STATE, () -> x.undo());
        }
    }

    private static void oneWithoutScale() {
        Checks.sentence("Throws NoSuchElementException if one of them has no scale");
        asked("disagreement");
        Replayed x = Checks.loaded(TWO_TUBES + "mark 0;fill 0 1;dip 0 h;pass 1;mark 0;");
        Checks.refuses("the second", x, Checks.ELEMENT, () -> x.disagreement(0, 1));
        Checks.refuses("the first", x, Checks.ELEMENT, () -> x.disagreement(1, 0));
        Checks.refuses("both", x, Checks.ELEMENT, () -> x.disagreement(1, 1));
        Checks.is("none", x.disagreement(0, 0), 0);
    }
}
