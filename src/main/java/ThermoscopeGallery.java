import java.util.NoSuchElementException;

public final class ThermoscopeGallery {
    public static final int PARSE_ERROR = -7;

    private static final String FIRST_TEXT = "gallery 20 4;spirit wine 10;spirit oil 6;bath ice 0;bath boil 100;tube wine 20 2 300 5;tube oil 30 3 90 8;dip 0 ice;dip 1 boil;pass 40;mark 0;mark 1;dip 0 boil;pass 40;mark 0;lift 0;leak 1;thumb 1 3;pass 2;";

    private static final int NONE = -1;
    private static final int NO_TEMPERATURE = -1000;
    private static final int LEAST_DEGREES = -20;
    private static final int MOST_DEGREES = 150;
    private static final int MOST_MINUTES = 300;
    private static final int MOST_THUMB_MINUTES = 60;
    private static final int MOST_FILL = 999;
    private static final int MOST_HEIGHT = 999;
    private static final int APPENDED_BYTES = 20;
    private static final int UNDO_ROWS = 6;
    private static final int SLOTS = 2;

    private final SetupReader reader;
    private final Gallery current;
    private final Gallery future;
    private final Gallery[] undoRows;
    private final Gallery[] slots;
    private final boolean[] slotFilled;
    private final StringBuilder output;
    private int undoNext;
    private int undoCount;
    private int lastErrorCode;
    private int lastErrorOffset;

    public ThermoscopeGallery() {
        SetupReader firstReader = new SetupReader();
        Gallery first = new Gallery();
        firstReader.putText(FIRST_TEXT);
        firstReader.readSetup();
        first.copyFrom(firstReader.draft);
        firstReader.length = 0;
        reader = firstReader;
        current = first;
        future = new Gallery();
        undoRows = emptyGalleries(UNDO_ROWS);
        slots = emptyGalleries(SLOTS);
        slotFilled = new boolean[SLOTS];
        output = new StringBuilder();
        undoNext = 0;
        undoCount = 0;
        lastErrorCode = 0;
        lastErrorOffset = NONE;
    }

    private static Gallery[] emptyGalleries(int count) {
        Gallery[] rows = new Gallery[count];
        for (int i = 0; i < count; i++) {
            rows[i] = new Gallery();
        }
        return rows;
    }

    // ---- The input buffer ----

    public int append(int a, int b, int c, int d, int e) throws IllegalStateException {
        if (reader.length + APPENDED_BYTES > SetupReader.MOST_BYTES) {
            throw new IllegalStateException("the input buffer would hold more than 600 bytes");
        }
        reader.putFourBytes(a);
        reader.putFourBytes(b);
        reader.putFourBytes(c);
        reader.putFourBytes(d);
        reader.putFourBytes(e);
        return reader.length;
    }

    public int truncate(int length) throws IllegalArgumentException {
        if (length < 0 || length > reader.length) {
            throw new IllegalArgumentException("no such length");
        }
        reader.length = length;
        return length;
    }

    public int load() {
        reader.readSetup();
        reader.length = 0;
        lastErrorCode = reader.failCode;
        lastErrorOffset = reader.failOffset;
        if (lastErrorCode != 0) {
            return PARSE_ERROR;
        }
        rememberCurrent();
        current.copyFrom(reader.draft);
        return current.tubeCount;
    }

    public int errorCode() {
        return lastErrorCode;
    }

    public int errorOffset() {
        return lastErrorOffset;
    }

    // ---- The gallery now ----

    public int minute() {
        return current.minuteNumber;
    }

    public int roomDegrees() {
        return current.room;
    }

    public int bathDegrees(int bath) throws IndexOutOfBoundsException {
        checkBath(bath);
        return current.degreesOfBaths[bath];
    }

    public int tubesIn(int bath) throws IndexOutOfBoundsException {
        checkBath(bath);
        int count = 0;
        for (int i = 0; i < current.tubeCount; i++) {
            if (current.tubes[i].bath == bath) {
                count++;
            }
        }
        return count;
    }

    public int spiritInTubes(int spirit) throws IndexOutOfBoundsException {
        checkSpirit(spirit);
        int sum = 0;
        for (int i = 0; i < current.tubeCount; i++) {
            if (current.tubes[i].spirit == spirit) {
                sum += current.tubes[i].fill;
            }
        }
        return sum;
    }

    public int spiritLost(int spirit) throws IndexOutOfBoundsException {
        checkSpirit(spirit);
        int sum = 0;
        for (int i = 0; i < current.tubeCount; i++) {
            if (current.tubes[i].spirit == spirit) {
                sum += current.tubes[i].lost;
            }
        }
        return sum;
    }

    public int spiritOf(int tube) throws IndexOutOfBoundsException {
        return checkedTube(tube).spirit;
    }

    public int fillOf(int tube) throws IndexOutOfBoundsException {
        return checkedTube(tube).fill;
    }

    public int temperatureOf(int tube) throws IndexOutOfBoundsException {
        return checkedTube(tube).temperature;
    }

    public int surroundingsOf(int tube) throws IndexOutOfBoundsException {
        return current.tenthsAround(checkedTube(tube));
    }

    public boolean isSettled(int tube) throws IndexOutOfBoundsException {
        return current.atRest(checkedTube(tube));
    }

    public boolean isLeaky(int tube) throws IndexOutOfBoundsException {
        return checkedTube(tube).leaky;
    }

    public int bathOf(int tube) throws IndexOutOfBoundsException {
        return checkedTube(tube).bath;
    }

    public int height(int tube) throws IndexOutOfBoundsException {
        return checkedTube(tube).level();
    }

    public int freeHeightAt(int tube, int tenths) throws IndexOutOfBoundsException, IllegalArgumentException {
        Tube asked = checkedTube(tube);
        checkRange(tenths, 10 * LEAST_DEGREES, 10 * MOST_DEGREES);
        return asked.freeHeight(tenths);
    }

    public int greatestTemperature(int tube) throws IndexOutOfBoundsException {
        Tube asked = checkedTube(tube);
        for (int tenths = 10 * MOST_DEGREES; tenths >= 10 * LEAST_DEGREES; tenths--) {
            if (asked.freeHeight(tenths) <= asked.length) {
                return tenths;
            }
        }
        return NO_TEMPERATURE;
    }

    public int thumbedTube() {
        return current.thumbed;
    }

    public int thumbLeft() {
        return current.thumbMinutes;
    }

    // ---- Points and scales ----

    public int pointCount(int tube) throws IndexOutOfBoundsException {
        return checkedTube(tube).points;
    }

    public int pointDegrees(int tube, int point) throws IndexOutOfBoundsException, NoSuchElementException {
        Tube asked = checkedTube(tube);
        checkPoint(asked, point);
        return asked.degreesOfPoints[point];
    }

    public int pointHeight(int tube, int point) throws IndexOutOfBoundsException, NoSuchElementException {
        Tube asked = checkedTube(tube);
        checkPoint(asked, point);
        return asked.heightsOfPoints[point];
    }

    public boolean hasScale(int tube) throws IndexOutOfBoundsException {
        return checkedTube(tube).scaled();
    }

    public int reading(int tube) throws IndexOutOfBoundsException, NoSuchElementException {
        Tube asked = checkedTube(tube);
        checkScale(asked);
        return asked.tenthsRead();
    }

    public int readingError(int tube) throws IndexOutOfBoundsException, NoSuchElementException {
        Tube asked = checkedTube(tube);
        checkScale(asked);
        return asked.tenthsRead() - asked.temperature;
    }

    public int scaleAt(int tube, int height)
            throws IndexOutOfBoundsException, IllegalArgumentException, NoSuchElementException {
        Tube asked = checkedTube(tube);
        checkRange(height, 0, MOST_HEIGHT);
        checkScale(asked);
        return asked.tenthsToldFor(height);
    }

    public int fitError(int tube) throws IndexOutOfBoundsException, NoSuchElementException {
        Tube asked = checkedTube(tube);
        checkScale(asked);
        return asked.greatestMisfit();
    }

    public int sensitivity(int tube) throws IndexOutOfBoundsException {
        Tube asked = checkedTube(tube);
        return asked.freeHeight(asked.temperature + 10) - asked.freeHeight(asked.temperature);
    }

    public int dipRefusal(int tube, int bath) throws IndexOutOfBoundsException {
        Tube asked = checkedTube(tube);
        checkBath(bath);
        return current.whyNotDip(asked, bath);
    }

    public int markRefusal(int tube) throws IndexOutOfBoundsException {
        return current.whyNotMark(checkedTube(tube));
    }

    // ---- Comparisons of all tubes ----

    public int bestTube() {
        int best = NONE;
        int least = 0;
        for (int i = 0; i < current.tubeCount; i++) {
            Tube tube = current.tubes[i];
            if (tube.scaled()) {
                int error = Math.abs(tube.tenthsRead() - tube.temperature);
                if (best == NONE || error < least) {
                    best = i;
                    least = error;
                }
            }
        }
        return best;
    }

    public int tallestTube() {
        int tallest = NONE;
        int greatest = 0;
        for (int i = 0; i < current.tubeCount; i++) {
            int level = current.tubes[i].level();
            if (tallest == NONE || level > greatest) {
                tallest = i;
                greatest = level;
            }
        }
        return tallest;
    }

    public int spread() {
        boolean found = false;
        int least = 0;
        int greatest = 0;
        for (int i = 0; i < current.tubeCount; i++) {
            Tube tube = current.tubes[i];
            if (tube.scaled()) {
                int tenths = tube.tenthsRead();
                least = found ? Math.min(least, tenths) : tenths;
                greatest = found ? Math.max(greatest, tenths) : tenths;
                found = true;
            }
        }
        return greatest - least;
    }

    public int disagreement(int tube, int other) throws IndexOutOfBoundsException, NoSuchElementException {
        Tube one = checkedTube(tube);
        Tube two = checkedTube(other);
        checkScale(one);
        checkScale(two);
        return Math.abs(one.tenthsRead() - two.tenthsRead());
    }

    public int worstFit() {
        int worst = NONE;
        int greatest = 0;
        for (int i = 0; i < current.tubeCount; i++) {
            Tube tube = current.tubes[i];
            if (tube.scaled()) {
                int misfit = tube.greatestMisfit();
                if (worst == NONE || misfit > greatest) {
                    worst = i;
                    greatest = misfit;
                }
            }
        }
        return worst;
    }

    public int bathsToMark(int tube) throws IndexOutOfBoundsException {
        Tube asked = checkedTube(tube);
        int count = 0;
        for (int i = 0; i < current.bathCount; i++) {
            if (!asked.hasPointOfDegrees(current.degreesOfBaths[i])) {
                count++;
            }
        }
        return count;
    }

    public int missedPoints() {
        int count = 0;
        for (int i = 0; i < current.tubeCount; i++) {
            Tube tube = current.tubes[i];
            if (tube.scaled()) {
                count += tube.misses(tube.lowerPoint()) ? 1 : 0;
                count += tube.misses(tube.upperPoint()) ? 1 : 0;
            }
        }
        return count;
    }

    public int spiritDifference() {
        int difference = 0;
        for (int i = 0; i < current.tubeCount; i++) {
            Tube tube = current.tubes[i];
            difference += tube.given - tube.fill - tube.lost;
        }
        return difference;
    }

    public float settledShare() {
        if (current.tubeCount == 0) {
            return 0.0f;
        }
        int settled = 0;
        for (int i = 0; i < current.tubeCount; i++) {
            if (current.atRest(current.tubes[i])) {
                settled++;
            }
        }
        return (float) settled / (float) current.tubeCount;
    }

    public double meanHeight() {
        if (current.tubeCount == 0) {
            return 0.0;
        }
        int sum = 0;
        for (int i = 0; i < current.tubeCount; i++) {
            sum += current.tubes[i].level();
        }
        return (double) sum / (double) current.tubeCount;
    }

    // ---- Forecasts ----

    public int heightAfter(int tube, int minutes) throws IndexOutOfBoundsException, IllegalArgumentException {
        checkedTube(tube);
        checkRange(minutes, 0, MOST_MINUTES);
        future.copyFrom(current);
        future.passMinutes(minutes);
        return future.tubes[tube].level();
    }

    public int temperatureAfter(int tube, int minutes) throws IndexOutOfBoundsException, IllegalArgumentException {
        checkedTube(tube);
        checkRange(minutes, 0, MOST_MINUTES);
        future.copyFrom(current);
        future.passMinutes(minutes);
        return future.tubes[tube].temperature;
    }

    public int minutesUntilSettled(int tube) throws IndexOutOfBoundsException {
        checkedTube(tube);
        future.copyFrom(current);
        for (int minutes = 0; minutes <= MOST_MINUTES; minutes++) {
            if (future.atRest(future.tubes[tube])) {
                return minutes;
            }
            future.passMinutes(1);
        }
        return NONE;
    }

    public int minutesUntilSpill(int tube) throws IndexOutOfBoundsException {
        checkedTube(tube);
        future.copyFrom(current);
        for (int minutes = 1; minutes <= MOST_MINUTES; minutes++) {
            future.passMinutes(1);
            if (future.tubes[tube].spilled > 0) {
                return minutes;
            }
        }
        return NONE;
    }

    public int minutesUntilHeight(int tube, int height) throws IndexOutOfBoundsException, IllegalArgumentException {
        checkedTube(tube);
        checkRange(height, 0, MOST_HEIGHT);
        future.copyFrom(current);
        for (int minutes = 0; minutes <= MOST_MINUTES; minutes++) {
            if (future.tubes[tube].level() >= height) {
                return minutes;
            }
            future.passMinutes(1);
        }
        return NONE;
    }

    public int lossAfter(int minutes) throws IllegalArgumentException {
        checkRange(minutes, 0, MOST_MINUTES);
        future.copyFrom(current);
        return future.passMinutes(minutes);
    }

    // ---- Changes ----

    public int dip(int tube, int bath) throws IndexOutOfBoundsException, IllegalStateException {
        Tube dipped = checkedTube(tube);
        checkBath(bath);
        if (current.whyNotDip(dipped, bath) != 0) {
            throw new IllegalStateException("dipping is refused");
        }
        rememberCurrent();
        dipped.bath = bath;
        return current.tenthsAround(dipped);
    }

    public int lift(int tube) throws IndexOutOfBoundsException, IllegalStateException {
        Tube lifted = checkedTube(tube);
        int bath = lifted.bath;
        if (bath == NONE) {
            throw new IllegalStateException("the tube is in the room");
        }
        rememberCurrent();
        lifted.bath = NONE;
        return bath;
    }

    public int mark(int tube) throws IndexOutOfBoundsException, IllegalStateException {
        Tube marked = checkedTube(tube);
        if (current.whyNotMark(marked) != 0) {
            throw new IllegalStateException("marking is refused");
        }
        rememberCurrent();
        current.markPoint(marked);
        return marked.points;
    }

    public int erasePoint(int tube, int point) throws IndexOutOfBoundsException, NoSuchElementException {
        Tube erased = checkedTube(tube);
        checkPoint(erased, point);
        rememberCurrent();
        int height = erased.heightsOfPoints[point];
        erased.removePoint(point);
        return height;
    }

    public int layThumb(int tube, int minutes) throws IndexOutOfBoundsException, IllegalArgumentException {
        checkedTube(tube);
        checkRange(minutes, 1, MOST_THUMB_MINUTES);
        rememberCurrent();
        int before = current.thumbed;
        current.thumbed = tube;
        current.thumbMinutes = minutes;
        return before;
    }

    public int topUp(int tube, int amount)
            throws IndexOutOfBoundsException, IllegalArgumentException, IllegalStateException {
        Tube filled = checkedTube(tube);
        checkRange(amount, 1, MOST_FILL);
        if (filled.fill + amount > MOST_FILL) {
            throw new IllegalStateException("the fill would be greater than 999");
        }
        rememberCurrent();
        filled.addSpirit(amount);
        return filled.fill;
    }

    public int setRoom(int degrees) throws IllegalArgumentException {
        checkRange(degrees, LEAST_DEGREES, MOST_DEGREES);
        rememberCurrent();
        int before = current.room;
        current.room = degrees;
        return before;
    }

    public boolean setLeaky(int tube, boolean isLeaky) throws IndexOutOfBoundsException {
        Tube changed = checkedTube(tube);
        rememberCurrent();
        boolean before = changed.leaky;
        changed.leaky = isLeaky;
        return before;
    }

    public int pass(int minutes) throws IllegalArgumentException {
        checkRange(minutes, 1, MOST_MINUTES);
        rememberCurrent();
        return current.passMinutes(minutes);
    }

    // ---- Saved states and undo ----

    public int save(int slot) throws IndexOutOfBoundsException {
        checkSlot(slot);
        slots[slot].copyFrom(current);
        slotFilled[slot] = true;
        return current.minuteNumber;
    }

    public int restore(int slot) throws IndexOutOfBoundsException, IllegalStateException {
        checkSlot(slot);
        if (!slotFilled[slot]) {
            throw new IllegalStateException("nothing is saved there");
        }
        rememberCurrent();
        current.copyFrom(slots[slot]);
        return current.minuteNumber;
    }

    public int undo() throws IllegalStateException {
        if (undoCount == 0) {
            throw new IllegalStateException("there is no change to undo");
        }
        undoCount--;
        undoNext = undoNext == 0 ? UNDO_ROWS - 1 : undoNext - 1;
        current.copyFrom(undoRows[undoNext]);
        return undoCount;
    }

    /** Called before a change, when it is certain that it does not throw any more. */
    private void rememberCurrent() {
        undoRows[undoNext].copyFrom(current);
        undoNext = undoNext == UNDO_ROWS - 1 ? 0 : undoNext + 1;
        if (undoCount < UNDO_ROWS) {
            undoCount++;
        }
    }

    // ---- The output text ----

    public int printTube(int tube) throws IndexOutOfBoundsException {
        Tube printed = checkedTube(tube);
        output.setLength(0);
        printName(printed.spiritName);
        output.append(' ');
        output.append(printed.level());
        output.append('/');
        output.append(printed.length);
        if (printed.scaled()) {
            output.append(' ');
            output.append('@');
            output.append(printed.tenthsRead());
        }
        if (current.thumbed == tube) {
            output.append('*');
        }
        return output.length();
    }

    private void printName(int name) {
        for (int shift = 24; shift >= 0; shift -= 8) {
            int letter = (name >> shift) & 255;
            if (letter != 0) {
                output.append((char) letter);
            }
        }
    }

    public int outputByte(int index) throws NoSuchElementException {
        if (index < 0 || index >= output.length()) {
            throw new NoSuchElementException("no such byte");
        }
        return output.charAt(index);
    }

    // ---- Tests of parameters ----

    private Tube checkedTube(int tube) {
        if (tube < 0 || tube >= current.tubeCount) {
            throw new IndexOutOfBoundsException("no such tube");
        }
        return current.tubes[tube];
    }

    private void checkBath(int bath) {
        if (bath < 0 || bath >= current.bathCount) {
            throw new IndexOutOfBoundsException("no such bath");
        }
    }

    private void checkSpirit(int spirit) {
        if (spirit < 0 || spirit >= current.spiritCount) {
            throw new IndexOutOfBoundsException("no such spirit");
        }
    }

    private static void checkSlot(int slot) {
        if (slot < 0 || slot >= SLOTS) {
            throw new IndexOutOfBoundsException("no such slot");
        }
    }

    private static void checkRange(int value, int least, int most) {
        if (value < least || value > most) {
            throw new IllegalArgumentException("out of range");
        }
    }

    private static void checkPoint(Tube tube, int point) {
        if (point < 0 || point >= tube.points) {
            throw new NoSuchElementException("no such point");
        }
    }

    private static void checkScale(Tube tube) {
        if (!tube.scaled()) {
            throw new NoSuchElementException("the tube has no scale");
        }
    }

    /** A tube with its points. What it needs of its spirit is copied into it, so that it can answer alone. */
    private static final class Tube {
        static final int MOST_POINTS = 6;

        final int number;
        final int[] degreesOfPoints;
        final int[] heightsOfPoints;
        int points;
        int spirit;
        int spiritName;
        int expansion;
        int bulb;
        int bore;
        int length;
        int fill;
        int temperature;
        int bath;
        boolean leaky;
        int given;
        int lost;
        int spilled;

        Tube(int itsNumber) {
            number = itsNumber;
            degreesOfPoints = new int[MOST_POINTS];
            heightsOfPoints = new int[MOST_POINTS];
            bore = 1;
            bath = NONE;
        }

        void copyFrom(Tube other) {
            System.arraycopy(other.degreesOfPoints, 0, degreesOfPoints, 0, MOST_POINTS);
            System.arraycopy(other.heightsOfPoints, 0, heightsOfPoints, 0, MOST_POINTS);
            points = other.points;
            spirit = other.spirit;
            spiritName = other.spiritName;
            expansion = other.expansion;
            bulb = other.bulb;
            bore = other.bore;
            length = other.length;
            fill = other.fill;
            temperature = other.temperature;
            bath = other.bath;
            leaky = other.leaky;
            given = other.given;
            lost = other.lost;
            spilled = other.spilled;
        }

        /** The row may have served another tube before: what is not described is set anew too. */
        void describe(int itsBulb, int itsBore, int itsLength, int itsFill, int tenths) {
            bulb = itsBulb;
            bore = itsBore;
            length = itsLength;
            fill = itsFill;
            given = itsFill;
            temperature = tenths;
            points = 0;
            bath = NONE;
            leaky = false;
            lost = 0;
            spilled = 0;
        }

        void holdSpirit(int itsSpirit, int itsName, int itsExpansion) {
            spirit = itsSpirit;
            spiritName = itsName;
            expansion = itsExpansion;
        }

        void addSpirit(int amount) {
            fill += amount;
            given += amount;
        }

        int freeHeight(int tenths) {
            int divisor = bore * 1000;
            if (divisor <= 0) {
                return fill;
            }
            // No temperature is below -200, so truncating is rounding down.
            return fill + bulb * expansion * (tenths + 300) / divisor;
        }

        int level() {
            return Math.min(freeHeight(temperature), length);
        }

        /** Lets a minute pass for this tube and tells what it has lost. */
        int passMinute(int minute, int surroundings, int lag) {
            int gap = surroundings - temperature;
            if (lag <= 0 || Math.abs(gap) < lag) {
                temperature = surroundings;
            } else {
                temperature += gap / lag;
            }
            int leaked = leaky && fill > 0 && minute % 10 == 0 ? 1 : 0;
            fill -= leaked;
            int excess = freeHeight(temperature) - length;
            spilled = excess > 0 ? Math.min(excess, fill) : 0;
            fill -= spilled;
            lost += leaked + spilled;
            return leaked + spilled;
        }

        boolean hasPointOfDegrees(int degrees) {
            for (int i = 0; i < points; i++) {
                if (degreesOfPoints[i] == degrees) {
                    return true;
                }
            }
            return false;
        }

        boolean hasPointOfHeight(int height) {
            for (int i = 0; i < points; i++) {
                if (heightsOfPoints[i] == height) {
                    return true;
                }
            }
            return false;
        }

        void addPoint(int degrees, int height) {
            if (points < MOST_POINTS) {
                degreesOfPoints[points] = degrees;
                heightsOfPoints[points] = height;
                points++;
            }
        }

        void removePoint(int point) {
            if (point < 0 || point >= points) {
                return;
            }
            points--;
            for (int i = point; i < points; i++) {
                degreesOfPoints[i] = degreesOfPoints[i + 1];
                heightsOfPoints[i] = heightsOfPoints[i + 1];
            }
        }

        boolean scaled() {
            return points >= 2;
        }

        int lowerPoint() {
            int lower = 0;
            for (int i = 1; i < points; i++) {
                if (degreesOfPoints[i] < degreesOfPoints[lower]) {
                    lower = i;
                }
            }
            return lower;
        }

        int upperPoint() {
            int upper = 0;
            for (int i = 1; i < points; i++) {
                if (degreesOfPoints[i] > degreesOfPoints[upper]) {
                    upper = i;
                }
            }
            return upper;
        }

        int tenthsToldFor(int height) {
            int lower = lowerPoint();
            int upper = upperPoint();
            int degrees = degreesOfPoints[upper] - degreesOfPoints[lower];
            int span = heightsOfPoints[upper] - heightsOfPoints[lower];
            int start = 10 * degreesOfPoints[lower];
            if (span == 0) {
                return start;
            }
            return start + 10 * degrees * (height - heightsOfPoints[lower]) / span;
        }

        int tenthsRead() {
            return tenthsToldFor(level());
        }

        int misfit(int point) {
            return Math.abs(10 * degreesOfPoints[point] - tenthsToldFor(heightsOfPoints[point]));
        }

        int greatestMisfit() {
            int greatest = 0;
            for (int i = 0; i < points; i++) {
                greatest = Math.max(greatest, misfit(i));
            }
            return greatest;
        }

        boolean misses(int point) {
            return misfit(point) != 0;
        }
    }

    /** Everything that undo brings back. */
    private static final class Gallery {
        static final int MOST_SPIRITS = 5;
        static final int MOST_BATHS = 4;
        static final int MOST_TUBES = 8;
        static final int THUMB_TENTHS = 370;

        final int[] spiritNames;
        final int[] expansions;
        final int[] bathNames;
        final int[] degreesOfBaths;
        final Tube[] tubes;
        int spiritCount;
        int bathCount;
        int tubeCount;
        int minuteNumber;
        int room;
        int lag;
        int thumbed;
        int thumbMinutes;

        Gallery() {
            spiritNames = new int[MOST_SPIRITS];
            expansions = new int[MOST_SPIRITS];
            bathNames = new int[MOST_BATHS];
            degreesOfBaths = new int[MOST_BATHS];
            tubes = new Tube[MOST_TUBES];
            for (int i = 0; i < MOST_TUBES; i++) {
                tubes[i] = new Tube(i);
            }
            lag = 1;
            thumbed = NONE;
        }

        void copyFrom(Gallery other) {
            System.arraycopy(other.spiritNames, 0, spiritNames, 0, MOST_SPIRITS);
            System.arraycopy(other.expansions, 0, expansions, 0, MOST_SPIRITS);
            System.arraycopy(other.bathNames, 0, bathNames, 0, MOST_BATHS);
            System.arraycopy(other.degreesOfBaths, 0, degreesOfBaths, 0, MOST_BATHS);
            spiritCount = other.spiritCount;
            bathCount = other.bathCount;
            tubeCount = other.tubeCount;
            minuteNumber = other.minuteNumber;
            room = other.room;
            lag = other.lag;
            thumbed = other.thumbed;
            thumbMinutes = other.thumbMinutes;
            for (int i = 0; i < tubeCount; i++) {
                tubes[i].copyFrom(other.tubes[i]);
            }
        }

        void clear() {
            spiritCount = 0;
            bathCount = 0;
            tubeCount = 0;
            minuteNumber = 0;
            room = 0;
            lag = 1;
            thumbed = NONE;
            thumbMinutes = 0;
        }

        void addSpirit(int name, int expansion) {
            if (spiritCount < MOST_SPIRITS) {
                spiritNames[spiritCount] = name;
                expansions[spiritCount] = expansion;
                spiritCount++;
            }
        }

        void addBath(int name, int degrees) {
            if (bathCount < MOST_BATHS) {
                bathNames[bathCount] = name;
                degreesOfBaths[bathCount] = degrees;
                bathCount++;
            }
        }

        void addTube(int spirit, int bulb, int bore, int length, int fill) {
            if (tubeCount < MOST_TUBES && spirit >= 0 && spirit < spiritCount) {
                Tube tube = tubes[tubeCount];
                tube.describe(bulb, bore, length, fill, 10 * room);
                tube.holdSpirit(spirit, spiritNames[spirit], expansions[spirit]);
                tubeCount++;
            }
        }

        int tenthsAround(Tube tube) {
            if (thumbed == tube.number) {
                return THUMB_TENTHS;
            }
            if (tube.bath >= 0 && tube.bath < bathCount) {
                return 10 * degreesOfBaths[tube.bath];
            }
            return 10 * room;
        }

        boolean atRest(Tube tube) {
            return tube.temperature == tenthsAround(tube);
        }

        int whyNotDip(Tube tube, int bath) {
            if (tube.bath == bath) {
                return 1;
            }
            return thumbed == tube.number ? 2 : 0;
        }

        int whyNotMark(Tube tube) {
            if (tube.bath < 0 || tube.bath >= bathCount) {
                return 1;
            }
            if (thumbed == tube.number || !atRest(tube)) {
                return 2;
            }
            if (tube.hasPointOfDegrees(degreesOfBaths[tube.bath])) {
                return 3;
            }
            if (tube.hasPointOfHeight(tube.level())) {
                return 4;
            }
            return tube.points >= Tube.MOST_POINTS ? 5 : 0;
        }

        void markPoint(Tube tube) {
            if (tube.bath >= 0 && tube.bath < bathCount) {
                tube.addPoint(degreesOfBaths[tube.bath], tube.level());
            }
        }

        /** Lets minutes pass and tells what all tubes have lost in them. */
        int passMinutes(int minutes) {
            int lost = 0;
            for (int i = 0; i < minutes; i++) {
                minuteNumber++;
                for (int t = 0; t < tubeCount; t++) {
                    lost += tubes[t].passMinute(minuteNumber, tenthsAround(tubes[t]), lag);
                    endThumbMinute(t);
                }
            }
            return lost;
        }

        private void endThumbMinute(int tube) {
            if (thumbed == tube) {
                thumbMinutes--;
                if (thumbMinutes <= 0) {
                    thumbed = NONE;
                }
            }
        }
    }

    /**
     * Holds the input buffer and reads it as a setup text into a draft. After the first error every
     * further step does nothing, so that a statement can be read step by step without a test behind each.
     */
    private static final class SetupReader {
        static final int MOST_BYTES = 600;

        private static final int NOT_ALLOWED = 1;
        private static final int OUT_OF_RANGE = 2;
        private static final int NAME_TAKEN = 3;
        private static final int NAME_UNKNOWN = 4;
        private static final int TOO_MANY = 5;
        private static final int REFUSED = 6;

        private static final int END = 0;
        private static final int WORD = 1;
        private static final int NUMBER = 2;
        private static final int MINUS = 3;
        private static final int SEMICOLON = 4;
        private static final int OTHER = 5;

        private static final int FAILED = -1;
        private static final int NO_NAME = 0;
        private static final int MOST_LETTERS = 4;
        private static final int MOST_LAG = 20;
        private static final int MOST_EXPANSION = 40;
        private static final int MOST_BULB = 50;
        private static final int MOST_BORE = 9;
        private static final int LEAST_LENGTH = 10;
        private static final int MOST_LENGTH = 999;
        // Greater than every number that a text may hold, and far from overflow when a digit is added.
        private static final int HUGE = 1000000;

        final byte[] text;
        final Gallery draft;
        int length;
        int failCode;
        int failOffset;
        private int kind;
        private int start;
        private int end;

        SetupReader() {
            text = new byte[MOST_BYTES];
            draft = new Gallery();
            failOffset = NONE;
        }

        // ---- The buffer ----

        void putByte(int b) {
            if (length >= 0 && length < MOST_BYTES) {
                text[length] = (byte) b;
                length++;
            }
        }

        void putFourBytes(int four) {
            putByte(four >> 24);
            putByte(four >> 16);
            putByte(four >> 8);
            putByte(four);
        }

        void putText(String signs) {
            for (int i = 0; i < signs.length(); i++) {
                putByte(signs.charAt(i));
            }
        }

        // ---- The text and its statements ----

        void readSetup() {
            draft.clear();
            failCode = 0;
            failOffset = NONE;
            end = 0;
            nextToken();
            readGallery();
            // A statement takes at least one byte.
            for (int i = 0; i < MOST_BYTES && failCode == 0 && kind != END; i++) {
                if (!readDescription() && !readDeed()) {
                    fail(NOT_ALLOWED);
                }
            }
        }

        private void readGallery() {
            if (!takeWord("gallery")) {
                fail(NOT_ALLOWED);
            }
            int room = takeDegrees();
            int lag = takeNumber(1, MOST_LAG);
            if (takeSemicolon(false)) {
                draft.room = room;
                draft.lag = lag;
            }
        }

        /** Reads a statement that describes something; tells whether it was one. */
        private boolean readDescription() {
            if (atWord("spirit")) {
                takeRow(draft.spiritCount, Gallery.MOST_SPIRITS);
                readSpirit();
            } else if (atWord("bath")) {
                takeRow(draft.bathCount, Gallery.MOST_BATHS);
                readBath();
            } else if (atWord("tube")) {
                takeRow(draft.tubeCount, Gallery.MOST_TUBES);
                readTube();
            } else {
                return false;
            }
            return true;
        }

        /** Reads a statement by which something happens; tells whether it was one. */
        private boolean readDeed() {
            if (takeWord("leak")) {
                readLeaky(true);
            } else if (takeWord("seal")) {
                readLeaky(false);
            } else if (takeWord("dip")) {
                readDip();
            } else if (takeWord("lift")) {
                readLift();
            } else if (takeWord("mark")) {
                readMark();
            } else if (takeWord("thumb")) {
                readThumb();
            } else if (takeWord("fill")) {
                readFill();
            } else if (takeWord("erase")) {
                readErase();
            } else if (takeWord("room")) {
                readRoom();
            } else if (takeWord("pass")) {
                readPass();
            } else {
                return false;
            }
            return true;
        }

        private void readSpirit() {
            int name = takeNewName();
            int expansion = takeNumber(1, MOST_EXPANSION);
            if (takeSemicolon(false)) {
                draft.addSpirit(name, expansion);
            }
        }

        private void readBath() {
            int name = takeNewName();
            int degrees = takeDegrees();
            if (takeSemicolon(false)) {
                draft.addBath(name, degrees);
            }
        }

        private void readTube() {
            int spirit = takeKnownName(draft.spiritNames, draft.spiritCount);
            int bulb = takeNumber(1, MOST_BULB);
            int bore = takeNumber(1, MOST_BORE);
            int tubeLength = takeNumber(LEAST_LENGTH, MOST_LENGTH);
            int fill = takeNumber(0, MOST_FILL);
            if (takeSemicolon(false)) {
                draft.addTube(spirit, bulb, bore, tubeLength, fill);
            }
        }

        private void readLeaky(boolean leaky) {
            Tube tube = takeTube();
            if (takeSemicolon(false) && tube != null) {
                tube.leaky = leaky;
            }
        }

        private void readDip() {
            Tube tube = takeTube();
            int bath = takeKnownName(draft.bathNames, draft.bathCount);
            boolean refused = tube != null && draft.whyNotDip(tube, bath) != 0;
            if (takeSemicolon(refused) && tube != null) {
                tube.bath = bath;
            }
        }

        private void readLift() {
            Tube tube = takeTube();
            boolean refused = tube != null && tube.bath == NONE;
            if (takeSemicolon(refused) && tube != null) {
                tube.bath = NONE;
            }
        }

        private void readMark() {
            Tube tube = takeTube();
            boolean refused = tube != null && draft.whyNotMark(tube) != 0;
            if (takeSemicolon(refused) && tube != null) {
                draft.markPoint(tube);
            }
        }

        private void readThumb() {
            Tube tube = takeTube();
            int minutes = takeNumber(1, MOST_THUMB_MINUTES);
            if (takeSemicolon(false) && tube != null) {
                draft.thumbed = tube.number;
                draft.thumbMinutes = minutes;
            }
        }

        private void readFill() {
            Tube tube = takeTube();
            int amount = takeNumber(1, MOST_FILL);
            boolean refused = tube != null && tube.fill + amount > MOST_FILL;
            if (takeSemicolon(refused) && tube != null) {
                tube.addSpirit(amount);
            }
        }

        private void readErase() {
            Tube tube = takeTube();
            int point = tube == null ? FAILED : takeNumber(0, tube.points - 1);
            if (takeSemicolon(false) && tube != null) {
                tube.removePoint(point);
            }
        }

        private void readRoom() {
            int degrees = takeDegrees();
            if (takeSemicolon(false)) {
                draft.room = degrees;
            }
        }

        private void readPass() {
            int minutes = takeNumber(0, MOST_MINUTES);
            if (takeSemicolon(false)) {
                draft.passMinutes(minutes);
            }
        }

        // ---- The parts of a statement ----

        /** Only the first error counts. */
        private void fail(int code) {
            if (failCode == 0) {
                failCode = code;
                failOffset = start;
            }
        }

        /** Goes behind the word for a new spirit, bath or tube. */
        private void takeRow(int count, int most) {
            if (count >= most) {
                fail(TOO_MANY);
            }
            nextToken();
        }

        private boolean takeWord(String word) {
            boolean found = atWord(word);
            if (found) {
                nextToken();
            }
            return found;
        }

        private int takeNumber(int least, int most) {
            int number = tokenNumber();
            if (kind != NUMBER) {
                fail(NOT_ALLOWED);
            } else if (number < least || number > most) {
                fail(OUT_OF_RANGE);
            }
            nextToken();
            return failCode == 0 ? number : FAILED;
        }

        private int takeDegrees() {
            if (kind == MINUS) {
                nextToken();
                return -takeNumber(0, -LEAST_DEGREES);
            }
            return takeNumber(0, MOST_DEGREES);
        }

        /** Tells null after an error. */
        private Tube takeTube() {
            int number = takeNumber(0, draft.tubeCount - 1);
            if (number < 0 || number >= draft.tubeCount) {
                return null;
            }
            return draft.tubes[number];
        }

        private int takeNewName() {
            int name = tokenName();
            if (kind != WORD) {
                fail(NOT_ALLOWED);
            } else if (name == NO_NAME) {
                fail(OUT_OF_RANGE);
            } else if (indexOfName(draft.spiritNames, draft.spiritCount, name) != NONE
                    || indexOfName(draft.bathNames, draft.bathCount, name) != NONE) {
                fail(NAME_TAKEN);
            }
            nextToken();
            return name;
        }

        private int takeKnownName(int[] names, int count) {
            int index = indexOfName(names, count, tokenName());
            if (kind != WORD) {
                fail(NOT_ALLOWED);
            } else if (index == NONE) {
                fail(NAME_UNKNOWN);
            }
            nextToken();
            return index;
        }

        /** Tells whether the whole statement is right and can be carried out. */
        private boolean takeSemicolon(boolean refused) {
            if (kind != SEMICOLON) {
                fail(NOT_ALLOWED);
            } else if (refused) {
                fail(REFUSED);
            }
            nextToken();
            return failCode == 0;
        }

        private static int indexOfName(int[] names, int count, int name) {
            for (int i = 0; i < count && i < names.length; i++) {
                if (names[i] == name) {
                    return i;
                }
            }
            return NONE;
        }

        // ---- Tokens: the latest one reaches from start to end ----

        private void nextToken() {
            start = end;
            while (start < length && (text[start] == ' ' || text[start] == '\n')) {
                start++;
            }
            end = start;
            if (start >= length) {
                kind = END;
                return;
            }
            kind = kindOf(text[start]);
            end++;
            while ((kind == WORD || kind == NUMBER) && end < length && kindOf(text[end]) == kind) {
                end++;
            }
        }

        private static int kindOf(byte b) {
            if (b >= 'a' && b <= 'z') {
                return WORD;
            }
            if (b >= '0' && b <= '9') {
                return NUMBER;
            }
            if (b == '-') {
                return MINUS;
            }
            return b == ';' ? SEMICOLON : OTHER;
        }

        private boolean atWord(String word) {
            if (kind != WORD || end - start != word.length()) {
                return false;
            }
            for (int i = 0; i < word.length(); i++) {
                if (text[start + i] != word.charAt(i)) {
                    return false;
                }
            }
            return true;
        }

        private int tokenNumber() {
            if (kind != NUMBER) {
                return FAILED;
            }
            int number = 0;
            for (int i = start; i < end; i++) {
                number = Math.min(10 * number + text[i] - '0', HUGE);
            }
            return number;
        }

        /** The word's letters as the bytes of one number, so that names are compared and copied as numbers. */
        private int tokenName() {
            if (kind != WORD || end - start > MOST_LETTERS) {
                return NO_NAME;
            }
            int name = 0;
            for (int i = start; i < end; i++) {
                name = name << 8 | text[i];
            }
            return name;
        }
    }
}
