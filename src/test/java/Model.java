import java.util.ArrayDeque;
import java.util.ArrayList;
import java.util.Deque;
import java.util.List;
import java.util.NoSuchElementException;
import java.util.function.ToIntFunction;

/**
 * A second gallery, written from DOC.md alone and as plainly as can be: every change copies the whole state, every
 * question looks at a copy. ModelTest compares the class with it, call by call.
 */
public final class Model {
    private final Deque<ModelState> earlier = new ArrayDeque<>();
    private final ModelState[] saved = new ModelState[2];
    private ModelState now;
    private String input = "";
    private String output = "";
    private int code = 0;
    private int offset = -1;

    public Model() {
        now = ModelText.read("gallery 20 4;spirit wine 10;spirit oil 6;bath ice 0;bath boil 100;tube wine 20 2 300 5;"
                + "tube oil 30 3 90 8;dip 0 ice;dip 1 boil;pass 40;mark 0;mark 1;dip 0 boil;pass 40;mark 0;lift 0;"
                + "leak 1;thumb 1 3;pass 2;").state;
    }

    /** How many rows of a kind there are: for those who choose arguments. */
    int count(String kind) {
        switch (kind) {
            case "tube":
                return now.tubes.size();
            case "bath":
                return now.baths.size();
            default:
                return now.spirits.size();
        }
    }

    private static void need(boolean holds, RuntimeException otherwise) {
        if (!holds) {
            throw otherwise;
        }
    }

    private static void needIn(int value, int least, int most) {
        need(value >= least && value <= most, new IllegalArgumentException());
    }

    private ModelState.Tube tube(int tube) {
        need(tube >= 0 && tube < now.tubes.size(), new IndexOutOfBoundsException());
        return now.tubes.get(tube);
    }

    private ModelState.Tube scaled(int tube) {
        need(tube(tube).points.size() >= 2, new NoSuchElementException());
        return tube(tube);
    }

    private ModelState.Row bath(int bath) {
        need(bath >= 0 && bath < now.baths.size(), new IndexOutOfBoundsException());
        return now.baths.get(bath);
    }

    private int[] point(int tube, int point) {
        List<int[]> points = tube(tube).points;
        need(point >= 0 && point < points.size(), new NoSuchElementException());
        return points.get(point);
    }

    /** The change works on a copy, so that it changes nothing if it throws. */
    private int change(ToIntFunction<ModelState> change) {
        ModelState next = now.copy();
        int answer = change.applyAsInt(next);
        earlier.addLast(now);
        if (earlier.size() > 6) {
            earlier.removeFirst();
        }
        now = next;
        return answer;
    }

    public int append(int a, int b, int c, int d, int e) {
        StringBuilder longer = new StringBuilder(input);
        for (int four : new int[] {a, b, c, d, e}) {
            for (int i = 3; i >= 0; i--) {
                longer.append((char) (four >>> 8 * i & 255));
            }
        }
        need(longer.length() <= 600, new IllegalStateException());
        input = longer.toString();
        return input.length();
    }

    public int truncate(int length) {
        needIn(length, 0, input.length());
        input = input.substring(0, length);
        return length;
    }

    public int load() {
        ModelText text = ModelText.read(input);
        input = "";
        code = text.code;
        offset = text.offset;
        if (code != 0) {
            return -7;
        }
        change(state -> 0);
        now = text.state;
        return now.tubes.size();
    }

    public int errorCode() {
        return code;
    }

    public int errorOffset() {
        return offset;
    }

    public int minute() {
        return now.minute;
    }

    public int roomDegrees() {
        return now.room;
    }

    public int bathDegrees(int bath) {
        return bath(bath).value();
    }

    public int tubesIn(int bath) {
        bath(bath);
        return (int) now.tubes.stream().filter(tube -> tube.bath == bath).count();
    }

    private int ofSpirit(int spirit, ToIntFunction<ModelState.Tube> part) {
        need(spirit >= 0 && spirit < now.spirits.size(), new IndexOutOfBoundsException());
        return now.tubes.stream().filter(tube -> tube.spirit == spirit).mapToInt(part).sum();
    }

    public int spiritInTubes(int spirit) {
        return ofSpirit(spirit, tube -> tube.fill);
    }

    public int spiritLost(int spirit) {
        return ofSpirit(spirit, tube -> tube.lost);
    }

    public int spiritOf(int tube) {
        return tube(tube).spirit;
    }

    public int fillOf(int tube) {
        return tube(tube).fill;
    }

    public int temperatureOf(int tube) {
        return tube(tube).tenths;
    }

    public int surroundingsOf(int tube) {
        tube(tube);
        return now.surroundings(tube);
    }

    public boolean isSettled(int tube) {
        return temperatureOf(tube) == surroundingsOf(tube);
    }

    public boolean isLeaky(int tube) {
        return tube(tube).leaky;
    }

    public int bathOf(int tube) {
        return tube(tube).bath;
    }

    public int height(int tube) {
        tube(tube);
        return now.height(tube);
    }

    public int freeHeightAt(int tube, int tenths) {
        tube(tube);
        needIn(tenths, -200, 1500);
        return now.free(tube, tenths);
    }

    public int greatestTemperature(int tube) {
        int length = tube(tube).length;
        int greatest = -1000;
        for (int tenths = -200; tenths <= 1500; tenths++) {
            if (now.free(tube, tenths) <= length) {
                greatest = tenths;
            }
        }
        return greatest;
    }

    public int thumbedTube() {
        return now.thumbed;
    }

    public int thumbLeft() {
        return now.thumbed == -1 ? 0 : now.thumbLeft;
    }

    public int pointCount(int tube) {
        return tube(tube).points.size();
    }

    public int pointDegrees(int tube, int point) {
        return point(tube, point)[0];
    }

    public int pointHeight(int tube, int point) {
        return point(tube, point)[1];
    }

    public boolean hasScale(int tube) {
        return tube(tube).points.size() >= 2;
    }

    public int reading(int tube) {
        return scaled(tube).tells(now.height(tube));
    }

    public int readingError(int tube) {
        return reading(tube) - temperatureOf(tube);
    }

    public int scaleAt(int tube, int height) {
        tube(tube);
        needIn(height, 0, 999);
        return scaled(tube).tells(height);
    }

    public int fitError(int tube) {
        return scaled(tube).points.stream()
                .mapToInt(point -> Math.abs(10 * point[0] - tube(tube).tells(point[1]))).max().getAsInt();
    }

    public int sensitivity(int tube) {
        int tenths = tube(tube).tenths;
        return now.free(tube, tenths + 10) - now.free(tube, tenths);
    }

    public int dipRefusal(int tube, int bath) {
        tube(tube);
        bath(bath);
        return now.dipRefusal(tube, bath);
    }

    public int markRefusal(int tube) {
        tube(tube);
        return now.markRefusal(tube);
    }

    /** The first of the tubes asked for which the value is greatest, -1 if there is none. */
    private int first(boolean withScale, ToIntFunction<Integer> value) {
        int best = -1;
        for (int tube = 0; tube < now.tubes.size(); tube++) {
            boolean asked = !withScale || hasScale(tube);
            if (asked && (best == -1 || value.applyAsInt(tube) > value.applyAsInt(best))) {
                best = tube;
            }
        }
        return best;
    }

    public int bestTube() {
        return first(true, tube -> -Math.abs(readingError(tube)));
    }

    public int tallestTube() {
        return first(false, this::height);
    }

    public int worstFit() {
        return first(true, this::fitError);
    }

    public int spread() {
        int greatest = first(true, this::reading);
        int least = first(true, tube -> -reading(tube));
        return greatest == -1 ? 0 : reading(greatest) - reading(least);
    }

    private ModelState after(int minutes) {
        needIn(minutes, 0, 300);
        ModelState later = now.copy();
        later.pass(minutes);
        return later;
    }

    public int heightAfter(int tube, int minutes) {
        tube(tube);
        return after(minutes).height(tube);
    }

    public int temperatureAfter(int tube, int minutes) {
        tube(tube);
        return after(minutes).tubes.get(tube).tenths;
    }

    /** The first number of minutes after which the state holds what is asked, -1 if there is none. */
    private int until(int tube, int from, ToIntFunction<ModelState> asked) {
        tube(tube);
        ModelState later = now.copy();
        later.pass(from);
        for (int minutes = from; minutes <= 300; minutes++) {
            if (asked.applyAsInt(later) != 0) {
                return minutes;
            }
            later.pass(1);
        }
        return -1;
    }

    public int minutesUntilSettled(int tube) {
        return until(tube, 0, later -> later.tubes.get(tube).tenths == later.surroundings(tube) ? 1 : 0);
    }

    public int minutesUntilSpill(int tube) {
        return until(tube, 1, later -> later.tubes.get(tube).lastSpill);
    }

    public int minutesUntilHeight(int tube, int height) {
        tube(tube);
        needIn(height, 0, 999);
        return until(tube, 0, later -> later.height(tube) >= height ? 1 : 0);
    }

    public int lossAfter(int minutes) {
        return after(minutes).lost() - now.lost();
    }

    public int disagreement(int tube, int other) {
        tube(tube);
        tube(other);
        return Math.abs(reading(tube) - reading(other));
    }

    public int bathsToMark(int tube) {
        List<int[]> points = tube(tube).points;
        return (int) now.baths.stream()
                .filter(bath -> points.stream().noneMatch(point -> point[0] == bath.value())).count();
    }

    public int missedPoints() {
        return 0;
    }

    public int spiritDifference() {
        return 0;
    }

    public float settledShare() {
        int settled = 0;
        for (int tube = 0; tube < now.tubes.size(); tube++) {
            settled += isSettled(tube) ? 1 : 0;
        }
        return now.tubes.isEmpty() ? 0.0f : (float) settled / (float) now.tubes.size();
    }

    public double meanHeight() {
        int sum = 0;
        for (int tube = 0; tube < now.tubes.size(); tube++) {
            sum += height(tube);
        }
        return now.tubes.isEmpty() ? 0.0 : (double) sum / (double) now.tubes.size();
    }

    public int dip(int tube, int bath) {
        tube(tube);
        bath(bath);
        return change(state -> state.dip(tube, bath));
    }

    public int lift(int tube) {
        tube(tube);
        return change(state -> state.lift(tube));
    }

    public int mark(int tube) {
        tube(tube);
        return change(state -> state.mark(tube));
    }

    public int erasePoint(int tube, int point) {
        point(tube, point);
        return change(state -> state.tubes.get(tube).points.remove(point)[1]);
    }

    public int layThumb(int tube, int minutes) {
        tube(tube);
        needIn(minutes, 1, 60);
        return change(state -> state.layThumb(tube, minutes));
    }

    public int topUp(int tube, int amount) {
        tube(tube);
        needIn(amount, 1, 999);
        return change(state -> state.topUp(tube, amount));
    }

    public int setRoom(int degrees) {
        needIn(degrees, -20, 150);
        int former = now.room;
        return change(state -> {
            state.room = degrees;
            return former;
        });
    }

    public boolean setLeaky(int tube, boolean isLeaky) {
        boolean before = tube(tube).leaky;
        change(state -> {
            state.tubes.get(tube).leaky = isLeaky;
            return 0;
        });
        return before;
    }

    public int pass(int minutes) {
        needIn(minutes, 1, 300);
        int lostBefore = now.lost();
        return change(state -> {
            state.pass(minutes);
            return state.lost() - lostBefore;
        });
    }

    public int save(int slot) {
        need(slot == 0 || slot == 1, new IndexOutOfBoundsException());
        saved[slot] = now.copy();
        return now.minute;
    }

    public int restore(int slot) {
        need(slot == 0 || slot == 1, new IndexOutOfBoundsException());
        need(saved[slot] != null, new IllegalStateException());
        change(state -> 0);
        now = saved[slot].copy();
        return now.minute;
    }

    public int undo() {
        need(!earlier.isEmpty(), new IllegalStateException());
        now = earlier.removeLast();
        return earlier.size();
    }

    public int printTube(int tube) {
        List<String> parts = new ArrayList<>();
        parts.add(now.spirits.get(tube(tube).spirit).name());
        parts.add(height(tube) + "/" + tube(tube).length);
        if (hasScale(tube)) {
            parts.add("@" + reading(tube));
        }
        output = String.join(" ", parts) + (now.thumbed == tube ? "*" : "");
        return output.length();
    }

    public int outputByte(int index) {
        need(index >= 0 && index < output.length(), new NoSuchElementException());
        return output.charAt(index);
    }
}
