import java.util.ArrayList;
import java.util.List;
import java.util.function.ToIntFunction;

/**
 * The gallery that a test asks. DOC.md leaves free what an object answers after 512 calls, and a test that compares
 * whole states asks more: so a new object takes over then, on which all calls that are no questions are made again.
 */
final class Replayed {
    private static final int MOST_CALLS = 512;

    private final List<ToIntFunction<ThermoscopeGallery>> deeds = new ArrayList<>();
    private ThermoscopeGallery current = new ThermoscopeGallery();
    private int calls = 0;

    private ThermoscopeGallery next() {
        if (calls == MOST_CALLS) {
            current = new ThermoscopeGallery();
            deeds.forEach(this::again);
            calls = deeds.size();
        }
        if (calls >= MOST_CALLS) {
            throw new AssertionError("a test that makes too many calls to be made again");
        }
        calls++;
        return current;
    }

    /** What threw an exception the first time does so again. */
    private void again(ToIntFunction<ThermoscopeGallery> deed) {
        try {
            deed.applyAsInt(current);
        } catch (RuntimeException e) {
            return;
        }
    }

    private int act(ToIntFunction<ThermoscopeGallery> deed) {
        ThermoscopeGallery gallery = next();
        deeds.add(deed);
        return deed.applyAsInt(gallery);
    }

    // ---- Questions ----

    int errorCode() {
        return next().errorCode();
    }

    int errorOffset() {
        return next().errorOffset();
    }

    int minute() {
        return next().minute();
    }

    int roomDegrees() {
        return next().roomDegrees();
    }

    int bathDegrees(int bath) {
        return next().bathDegrees(bath);
    }

    int tubesIn(int bath) {
        return next().tubesIn(bath);
    }

    int spiritInTubes(int spirit) {
        return next().spiritInTubes(spirit);
    }

    int spiritLost(int spirit) {
        return next().spiritLost(spirit);
    }

    int spiritOf(int tube) {
        return next().spiritOf(tube);
    }

    int fillOf(int tube) {
        return next().fillOf(tube);
    }

    int temperatureOf(int tube) {
        return next().temperatureOf(tube);
    }

    int surroundingsOf(int tube) {
        return next().surroundingsOf(tube);
    }

    boolean isSettled(int tube) {
        return next().isSettled(tube);
    }

    boolean isLeaky(int tube) {
        return next().isLeaky(tube);
    }

    int bathOf(int tube) {
        return next().bathOf(tube);
    }

    int height(int tube) {
        return next().height(tube);
    }

    int freeHeightAt(int tube, int tenths) {
        return next().freeHeightAt(tube, tenths);
    }

    int greatestTemperature(int tube) {
        return next().greatestTemperature(tube);
    }

    int thumbedTube() {
        return next().thumbedTube();
    }

    int thumbLeft() {
        return next().thumbLeft();
    }

    int pointCount(int tube) {
        return next().pointCount(tube);
    }

    int pointDegrees(int tube, int point) {
        return next().pointDegrees(tube, point);
    }

    int pointHeight(int tube, int point) {
        return next().pointHeight(tube, point);
    }

    boolean hasScale(int tube) {
        return next().hasScale(tube);
    }

    int reading(int tube) {
        return next().reading(tube);
    }

    int readingError(int tube) {
        return next().readingError(tube);
    }

    int scaleAt(int tube, int height) {
        return next().scaleAt(tube, height);
    }

    int fitError(int tube) {
        return next().fitError(tube);
    }

    int sensitivity(int tube) {
        return next().sensitivity(tube);
    }

    int dipRefusal(int tube, int bath) {
        return next().dipRefusal(tube, bath);
    }

    int markRefusal(int tube) {
        return next().markRefusal(tube);
    }

    int bestTube() {
        return next().bestTube();
    }

    int tallestTube() {
        return next().tallestTube();
    }

    int spread() {
        return next().spread();
    }

    int heightAfter(int tube, int minutes) {
        return next().heightAfter(tube, minutes);
    }

    int temperatureAfter(int tube, int minutes) {
        return next().temperatureAfter(tube, minutes);
    }

    int minutesUntilSettled(int tube) {
        return next().minutesUntilSettled(tube);
    }

    int minutesUntilSpill(int tube) {
        return next().minutesUntilSpill(tube);
    }

    int minutesUntilHeight(int tube, int height) {
        return next().minutesUntilHeight(tube, height);
    }

    int disagreement(int tube, int other) {
        return next().disagreement(tube, other);
    }

    int worstFit() {
        return next().worstFit();
    }

    int lossAfter(int minutes) {
        return next().lossAfter(minutes);
    }

    int bathsToMark(int tube) {
        return next().bathsToMark(tube);
    }

    int missedPoints() {
        return next().missedPoints();
    }

    int spiritDifference() {
        return next().spiritDifference();
    }

    float settledShare() {
        return next().settledShare();
    }

    double meanHeight() {
        return next().meanHeight();
    }

    int outputByte(int index) {
        return next().outputByte(index);
    }

    // ---- What may leave something behind ----

    int append(int a, int b, int c, int d, int e) {
        return act(gallery -> gallery.append(a, b, c, d, e));
    }

    int truncate(int length) {
        return act(gallery -> gallery.truncate(length));
    }

    int load() {
        return act(gallery -> gallery.load());
    }

    int dip(int tube, int bath) {
        return act(gallery -> gallery.dip(tube, bath));
    }

    int lift(int tube) {
        return act(gallery -> gallery.lift(tube));
    }

    int mark(int tube) {
        return act(gallery -> gallery.mark(tube));
    }

    int erasePoint(int tube, int point) {
        return act(gallery -> gallery.erasePoint(tube, point));
    }

    int layThumb(int tube, int minutes) {
        return act(gallery -> gallery.layThumb(tube, minutes));
    }

    int topUp(int tube, int amount) {
        return act(gallery -> gallery.topUp(tube, amount));
    }

    int setRoom(int degrees) {
        return act(gallery -> gallery.setRoom(degrees));
    }

    boolean setLeaky(int tube, boolean isLeaky) {
        return act(gallery -> gallery.setLeaky(tube, isLeaky) ? 1 : 0) == 1;
    }

    int pass(int minutes) {
        return act(gallery -> gallery.pass(minutes));
    }

    int save(int slot) {
        return act(gallery -> gallery.save(slot));
    }

    int restore(int slot) {
        return act(gallery -> gallery.restore(slot));
    }

    int undo() {
        return act(gallery -> gallery.undo());
    }

    int printTube(int tube) {
        return act(gallery -> gallery.printTube(tube));
    }
}
