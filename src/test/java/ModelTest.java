import java.lang.reflect.InvocationTargetException;
import java.lang.reflect.Method;
import java.util.ArrayList;
import java.util.Arrays;
import java.util.HashMap;
import java.util.List;
import java.util.Map;
import java.util.Random;

/**
 * Promises 1 to 65: seeded runs of 512 calls each, the most for which an object is promised, on the class and on the
 * Model; every answer and every exception must be the same. Arguments lie on both sides of each bound.
 */
public final class ModelTest {
    private static final int RUNS = 400;
    private static final int CALLS = 512;
    /** Each method with the kinds of its parameters; append, truncate and load are called for whole texts. */
    private static final String[] QUESTIONS = {"errorCode", "errorOffset", "minute", "roomDegrees", "bathDegrees bath",
        "tubesIn bath", "spiritInTubes spirit", "spiritLost spirit", "spiritOf tube", "fillOf tube",
        "temperatureOf tube", "surroundingsOf tube", "isSettled tube", "isLeaky tube", "bathOf tube", "height tube",
        "freeHeightAt tube tenths", "greatestTemperature tube", "thumbedTube", "thumbLeft", "pointCount tube",
        "pointDegrees tube point", "pointHeight tube point", "hasScale tube", "reading tube", "readingError tube",
        "scaleAt tube height", "fitError tube", "sensitivity tube", "dipRefusal tube bath", "markRefusal tube",
        "bestTube", "tallestTube", "spread", "heightAfter tube later", "temperatureAfter tube later",
        "minutesUntilSettled tube", "minutesUntilSpill tube", "minutesUntilHeight tube height",
        "disagreement tube tube", "worstFit", "lossAfter later", "bathsToMark tube", "missedPoints",
        "spiritDifference", "settledShare", "meanHeight", "outputByte index"};
    private static final String[] CHANGES = {"dip tube bath", "lift tube", "mark tube", "erasePoint tube point",
        "layThumb tube thumb", "topUp tube amount", "topUp tube little", "setRoom degrees", "setLeaky tube flag",
        "pass minutes", "pass few", "save slot", "restore slot", "undo", "undo", "printTube tube", "truncate length"};
    private static final Map<String, int[]> KINDS = Map.ofEntries(Map.entry("point", new int[] {0, 3}),
            Map.entry("tenths", new int[] {-200, 1500}), Map.entry("height", new int[] {0, 999}),
            Map.entry("later", new int[] {0, 300}),
            Map.entry("thumb", new int[] {1, 60}), Map.entry("amount", new int[] {1, 999}),
            Map.entry("little", new int[] {1, 9}), Map.entry("degrees", new int[] {-20, 150}),
            Map.entry("minutes", new int[] {1, 300}), Map.entry("few", new int[] {1, 12}),
            Map.entry("slot", new int[] {0, 1}), Map.entry("index", new int[] {0, 12}),
            Map.entry("length", new int[] {0, 600}));

    private final Random random;
    private final TextMaker texts;
    private final ThermoscopeGallery gallery = new ThermoscopeGallery();
    private final Model model = new Model();
    private final Map<String, Method> methods = new HashMap<>();
    private final Map<String, Method> modelMethods = new HashMap<>();
    private final List<String> done = new ArrayList<>();

    private ModelTest(int seed) {
        random = new Random(seed);
        texts = new TextMaker(random);
        for (Method method : ThermoscopeGallery.class.getMethods()) {
            methods.put(method.getName(), method);
        }
        for (Method method : Model.class.getMethods()) {
            modelMethods.put(method.getName(), method);
        }
    }

    public static void main(String[] args) {
        for (int seed = 1; seed <= RUNS; seed++) {
            new ModelTest(seed).run("run " + seed);
        }
        Checks.finish("ModelTest");
    }

    private void run(String what) {
        boolean same = true;
        while (same && done.size() < CALLS) {
            int choice = random.nextInt(100);
            if (choice < 2) {
                same = load(texts.text());
            } else if (choice < 7) {
                same = settleAndMark();
            } else {
                same = step(choice < 70 ? QUESTIONS : CHANGES);
            }
        }
        String last = done.get(done.size() - 1);
        Checks.is(what + ": the same answers until " + done.size() + ", " + last, same, true);
    }

    private boolean step(String[] calls) {
        String[] words = calls[random.nextInt(calls.length)].split(" ");
        Object[] arguments = new Object[words.length - 1];
        for (int i = 0; i < arguments.length; i++) {
            arguments[i] = words[i + 1].equals("flag") ? (Object) random.nextBoolean() : (Object) value(words[i + 1]);
        }
        return same(words[0], arguments);
    }

    /** Mostly within the bounds, sometimes on them, sometimes just or far beyond. */
    private int value(String kind) {
        boolean bounded = KINDS.containsKey(kind);
        int least = bounded ? KINDS.get(kind)[0] : 0;
        int most = bounded ? KINDS.get(kind)[1] : model.count(kind) - 1;
        int[] edges = {least, most, least - 1, most + 1, -1, Integer.MIN_VALUE, Integer.MAX_VALUE, random.nextInt()};
        boolean onEdge = most < least || random.nextInt(8) == 0;
        return onEdge ? edges[random.nextInt(edges.length)] : least + random.nextInt(most - least + 1);
    }

    private boolean load(String text) {
        boolean same = same("truncate", 0);
        int length = 0;
        for (int i = 0; i < text.length() && same && length <= 600; i += 20) {
            Object[] fours = new Object[5];
            for (int k = 0; k < 5; k++) {
                fours[k] = Checks.four(text, i + 4 * k);
            }
            same = same("append", fours);
            length += 20;
        }
        // What is cut within a token stays behind the end, where it must not be read.
        int kept = random.nextInt(6) == 0 ? Math.max(0, text.length() - 1 - random.nextInt(12)) : text.length();
        return same && same("truncate", kept) && same("load") && same("errorCode") && same("errorOffset");
    }

    private boolean settleAndMark() {
        int tube = value("tube");
        boolean same = same("dip", tube, value("bath")) && same("pass", 20 + random.nextInt(100));
        return same && same("topUp", tube, 1 + random.nextInt(30)) && same("mark", tube) && same("printTube", tube);
    }

    private boolean same(String name, Object... arguments) {
        if (done.size() >= CALLS) {
            return true;
        }
        String call = name + Arrays.toString(arguments);
        done.add(call);
        String got = answer(methods.get(name), gallery, arguments);
        String due = answer(modelMethods.get(name), model, arguments);
        Checks.is(call, got, due);
        return got.equals(due);
    }

    private static String answer(Method method, Object asked, Object[] arguments) {
        try {
            return String.valueOf(method.invoke(asked, arguments));
        } catch (InvocationTargetException e) {
            return e.getCause().getClass().getName();
        } catch (IllegalAccessException e) {
            throw new IllegalStateException(e);
        }
    }
}
