import java.util.ArrayDeque;
import java.util.Deque;
import java.util.Random;
import java.util.function.IntSupplier;

/**
 * Long runs of calls with seeded arguments. No call throws what the document does not name for it; a call that throws
 * and a question change nothing; undo brings back each state; forecasts come true; the sums stay even.
 */
public final class RandomCallsTest {
    private static final int RUNS = 60;
    private static final int CALLS = 200;

    private final Random random;
    private final ThermoscopeGallery x = new ThermoscopeGallery();
    private final Deque<String> before = new ArrayDeque<>();
    private final String[] saved = new String[2];

    private RandomCallsTest(int seed) {
        random = new Random(seed);
    }

    public static void main(String[] args) {
        for (int seed = 1; seed <= RUNS; seed++) {
            new RandomCallsTest(seed).run(seed);
        }
        Checks.finish("RandomCallsTest");
    }

    private void run(int seed) {
        for (int i = 0; i < CALLS; i++) {
            String state = Checks.state(x);
            String output = Checks.output(x);
            String call = step(state);
            String what = "run " + seed + ", call " + i + ", " + call;
            Checks.is(what + ": difference", x.spiritDifference(), 0);
            Checks.is(what + ": missed points", x.missedPoints(), 0);
            Checks.is(what + ": output text", call.startsWith("print") || output.equals(Checks.output(x)), true);
            for (int tube = 0; tube < 8 && bodyOf(tube); tube++) {
                checkTube(what + ", tube " + tube, tube);
            }
        }
    }

    private boolean bodyOf(int tube) {
        try {
            return x.fillOf(tube) >= 0;
        } catch (IndexOutOfBoundsException e) {
            return false;
        }
    }

    private void checkTube(String what, int tube) {
        int temperature = x.temperatureOf(tube);
        Checks.is(what + ": temperature", temperature >= -200 && temperature <= 1500, true);
        Checks.is(what + ": fill", x.fillOf(tube) >= 0 && x.fillOf(tube) <= 999, true);
        int sensitivity = x.sensitivity(tube);
        if (temperature <= 1490) {
            int free = x.freeHeightAt(tube, temperature);
            Checks.is(what + ": sensitivity", sensitivity, x.freeHeightAt(tube, temperature + 10) - free);
        }
        Checks.is(what + ": settled", x.isSettled(tube), temperature == x.surroundingsOf(tube));
        Checks.is(what + ": now", x.temperatureAfter(tube, 0), temperature);
        Checks.is(what + ": now", x.heightAfter(tube, 0), x.height(tube));
    }

    /** Makes one call, checks what it did to the state and tells what it was. */
    private String step(String state) {
        int tube = tube();
        int other = random.nextInt(6) - 1;
        int number = number();
        switch (random.nextInt(16)) {
            case 0:
                return load(state);
            case 1:
            case 2:
                return change(state, "dip", () -> x.dip(tube, other));
            case 3:
                return change(state, "lift", () -> x.lift(tube));
            case 4:
            case 5:
                return change(state, "mark", () -> x.mark(tube));
            case 6:
                return change(state, "erasePoint", () -> x.erasePoint(tube, other));
            case 7:
                return change(state, "layThumb", () -> x.layThumb(tube, number));
            case 8:
                return change(state, "topUp", () -> x.topUp(tube, number));
            case 9:
                return change(state, "setRoom", () -> x.setRoom(number));
            case 10:
                return change(state, "setLeaky", () -> x.setLeaky(tube, random.nextInt(3) > 0) ? 1 : 0);
            case 11:
            case 12:
                return pass(state, number);
            case 13:
                return saveOrRestore(state, other);
            case 14:
                return undo(state);
            default:
                Checks.answer(() -> x.printTube(tube));
                Checks.is("printing", Checks.state(x), state);
                return "print";
        }
    }

    private int tube() {
        return random.nextInt(12) == 0 ? number() : random.nextInt(3);
    }

    private int number() {
        switch (random.nextInt(8)) {
            case 0:
                return random.nextInt();
            case 1:
                return random.nextBoolean() ? Integer.MIN_VALUE : Integer.MAX_VALUE;
            case 2:
                return -random.nextInt(25);
            case 3:
                return 300;
            default:
                return random.nextInt(70);
        }
    }

    private void changed(String state) {
        before.addLast(state);
        if (before.size() > 6) {
            before.removeFirst();
        }
    }

    private String change(String state, String name, IntSupplier call) {
        try {
            call.getAsInt();
            changed(state);
        } catch (RuntimeException e) {
            documented(name, e);
            Checks.is(name + " that throws", Checks.state(x), state);
        }
        return name;
    }

    private static void documented(String name, RuntimeException e) {
        Class<?> type = e.getClass();
        boolean due = type == Checks.INDEX && !name.equals("setRoom") && !name.equals("pass") && !name.equals("undo")
                || type == Checks.ELEMENT && name.equals("erasePoint")
                || type == Checks.STATE && "dip lift mark topUp restore undo".contains(name)
                || type == Checks.ARGUMENT && "layThumb topUp setRoom pass".contains(name);
        Checks.is(name + " throws " + type, due, true);
    }

    private String pass(String state, int minutes) {
        if (minutes < 1 || minutes > 300) {
            return change(state, "pass", () -> x.pass(minutes));
        }
        int[] heights = new int[8];
        int[] tenths = new int[8];
        for (int tube = 0; tube < 8 && bodyOf(tube); tube++) {
            heights[tube] = x.heightAfter(tube, minutes);
            tenths[tube] = x.temperatureAfter(tube, minutes);
        }
        int loss = x.lossAfter(minutes);
        foresee(state, minutes);
        Checks.is("loss", x.pass(minutes), loss);
        changed(state);
        for (int tube = 0; tube < 8 && bodyOf(tube); tube++) {
            Checks.is("height", x.height(tube), heights[tube]);
            Checks.is("temperature", x.temperatureOf(tube), tenths[tube]);
        }
        return "pass";
    }

    /** Lets the minutes pass one by one and compares with what was asked before; then brings the state back. */
    private void foresee(String state, int minutes) {
        if (!bodyOf(0)) {
            return;
        }
        int height = random.nextInt(300);
        int settled = x.minutesUntilSettled(0);
        int reached = x.minutesUntilHeight(0, height);
        x.save(0);
        saved[0] = state;
        for (int i = 0; i < Math.min(minutes, 25); i++) {
            Checks.is("settled at " + settled, x.isSettled(0) && (settled < 0 || settled > i), false);
            Checks.is("height at " + reached, x.height(0) >= height && (reached < 0 || reached > i), false);
            Checks.is("settled at " + settled, settled != i || x.isSettled(0), true);
            Checks.is("height at " + reached, reached != i || x.height(0) >= height, true);
            String now = Checks.state(x);
            x.pass(1);
            changed(now);
        }
        String last = Checks.state(x);
        x.restore(0);
        changed(last);
        Checks.is("restored", Checks.state(x), state);
    }

    private String saveOrRestore(String state, int slot) {
        if (random.nextBoolean()) {
            try {
                Checks.is("save", x.save(slot), x.minute());
                saved[slot] = state;
            } catch (IndexOutOfBoundsException e) {
                Checks.is("save", slot >= 0 && slot < 2, false);
            }
            Checks.is("saving", Checks.state(x), state);
            return "save";
        }
        change(state, "restore", () -> x.restore(slot));
        if (slot >= 0 && slot < 2 && saved[slot] != null) {
            Checks.is("restored", Checks.state(x), saved[slot]);
        }
        return "restore";
    }

    private String undo(String state) {
        try {
            Checks.is("undo", x.undo(), before.size() - 1);
            Checks.is("undone", Checks.state(x), before.removeLast());
        } catch (IllegalStateException e) {
            Checks.is("nothing to undo", before.isEmpty(), true);
            Checks.is("undo that throws", Checks.state(x), state);
        }
        return "undo";
    }

    private String load(String state) {
        StringBuilder text = new StringBuilder();
        text.append("gallery ").append(random.nextInt(60)).append(' ').append(1 + random.nextInt(20)).append(';');
        text.append("spirit s ").append(1 + random.nextInt(40)).append(";spirit t ").append(1 + random.nextInt(40));
        text.append(";bath a ").append(random.nextInt(30)).append(";bath b ").append(50 + random.nextInt(60));
        text.append(";bath c -").append(random.nextInt(20)).append(";bath d ").append(random.nextInt(30)).append(';');
        for (int i = random.nextInt(4); i > 0; i--) {
            text.append(random.nextBoolean() ? "tube s " : "tube t ").append(1 + random.nextInt(50)).append(' ');
            text.append(1 + random.nextInt(9)).append(' ').append(10 + random.nextInt(400)).append(' ');
            text.append(random.nextInt(100)).append(';');
        }
        for (int i = random.nextInt(4); i > 0; i--) {
            text.append(deed());
        }
        if (random.nextInt(3) == 0) {
            text.setCharAt(random.nextInt(text.length()), (char) random.nextInt(256));
        }
        if (Checks.load(x, text.toString()) >= 0) {
            changed(state);
            Checks.is("no error", x.errorCode() * 1000 + x.errorOffset(), -1);
            return "load";
        }
        Checks.is("error", x.errorCode() >= 1 && x.errorCode() <= 6, true);
        Checks.is("error", x.errorOffset() >= 0 && x.errorOffset() <= text.length(), true);
        Checks.is("load with an error", Checks.state(x), state);
        return "load with an error";
    }

    private String deed() {
        String[] deeds = {"dip 0 a;", "dip 1 b;", "pass 70;", "mark 0;", "thumb 0 9;", "fill 0 44;", "leak 0;",
            "erase 0 0;", "lift 0;", "room -5;", "seal 0;", "dip 0 b;pass 300;mark 0;"};
        return deeds[random.nextInt(deeds.length)];
    }
}
