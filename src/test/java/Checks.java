import java.util.function.IntSupplier;

/** What all tests use: comparing, loading a setup text, and one text with all answers of a gallery. */
final class Checks {
    static final Class<IndexOutOfBoundsException> INDEX = IndexOutOfBoundsException.class;
    static final Class<IllegalArgumentException> ARGUMENT = IllegalArgumentException.class;
    static final Class<IllegalStateException> STATE = IllegalStateException.class;
    static final Class<java.util.NoSuchElementException> ELEMENT = java.util.NoSuchElementException.class;

    private static int wrong = 0;
    private static int done = 0;

    private Checks() {
    }

    static void is(String what, double got, double due) {
        done++;
        if (got != due) {
            wrong(what + " answered " + got + ", due is " + due);
        }
    }

    static void is(String what, boolean got, boolean due) {
        is(what, got ? 1 : 0, due ? 1 : 0);
    }

    static void is(String what, String got, String due) {
        done++;
        if (!got.equals(due)) {
            int from = 0;
            while (from < got.length() && from < due.length() && got.charAt(from) == due.charAt(from)) {
                from++;
            }
            from = Math.max(0, from - 80);
            wrong(what + " answered .." + part(got, from) + ".., due is .." + part(due, from) + "..");
        }
    }

    private static String part(String text, int from) {
        return text.substring(from, Math.min(text.length(), from + 160));
    }

    static void wrong(String message) {
        wrong++;
        if (wrong <= 50) {
            System.out.println(message);
        }
    }

    /** The call must throw just this class and leave every answer as it was. */
    static void refuses(String what, ThermoscopeGallery x, Class<? extends RuntimeException> due, IntSupplier call) {
        done++;
        String before = answers(x);
        Class<?> thrown = null;
        try {
            call.getAsInt();
        } catch (RuntimeException e) {
            thrown = e.getClass();
        }
        if (thrown != due) {
            wrong(what + " threw " + thrown + ", due is " + due);
        }
        is(what + ": the answers afterwards", answers(x), before);
    }

    static void finish(String name) {
        System.out.println(name + ": " + done + " checks, " + wrong + " wrong");
        System.exit(wrong == 0 && done > 0 ? 0 : 1);
    }

    /** Appends a text in pieces of 20 bytes and cuts what is too much. */
    static void put(ThermoscopeGallery x, String text) {
        int length = 0;
        for (int i = 0; i < text.length(); i += 20) {
            length = x.append(four(text, i), four(text, i + 4), four(text, i + 8), four(text, i + 12),
                    four(text, i + 16));
        }
        if (text.length() % 20 != 0) {
            x.truncate(length - 20 + text.length() % 20);
        }
    }

    private static int four(String text, int from) {
        int value = 0;
        for (int i = from; i < from + 4; i++) {
            value = value << 8 | (i < text.length() ? text.charAt(i) & 255 : ' ');
        }
        return value;
    }

    static int load(ThermoscopeGallery x, String text) {
        put(x, text);
        return x.load();
    }

    static ThermoscopeGallery loaded(String text) {
        ThermoscopeGallery x = new ThermoscopeGallery();
        is("load of " + text + ": error", load(x, text) < 0 ? x.errorCode() * 1000 + x.errorOffset() : 0, 0);
        return x;
    }

    static String output(ThermoscopeGallery x) {
        StringBuilder text = new StringBuilder();
        try {
            for (int i = 0; i < 100; i++) {
                text.append((char) x.outputByte(i));
            }
        } catch (java.util.NoSuchElementException e) {
            return text.toString();
        }
        return "endless";
    }

    static String printed(ThermoscopeGallery x, int tube) {
        int length = x.printTube(tube);
        String text = output(x);
        is("length of the output text", length, text.length());
        return text;
    }

    /** An answer or the name of what was thrown. */
    static String answer(IntSupplier call) {
        try {
            return " " + call.getAsInt();
        } catch (RuntimeException e) {
            return " " + (e.getClass() == INDEX ? "I" : e.getClass() == ELEMENT ? "E" : e.getClass().getName());
        }
    }

    /** All answers but those about the input buffer and the saved states; with the output text and the error. */
    static String answers(ThermoscopeGallery x) {
        return state(x) + " error " + x.errorCode() + " " + x.errorOffset() + " output " + output(x);
    }

    /** All answers that undo brings back. */
    static String state(ThermoscopeGallery x) {
        StringBuilder all = new StringBuilder();
        all.append(x.minute()).append(" room ").append(x.roomDegrees());
        all.append(" thumb ").append(x.thumbedTube()).append(" ").append(x.thumbLeft());
        all.append(" best ").append(x.bestTube()).append(" tallest ").append(x.tallestTube());
        all.append(" spread ").append(x.spread()).append(" worst ").append(x.worstFit());
        all.append(" share ").append(x.settledShare()).append(" mean ").append(x.meanHeight());
        all.append(" missed ").append(x.missedPoints()).append(" difference ").append(x.spiritDifference());
        all.append(" loss").append(answer(() -> x.lossAfter(1))).append(answer(() -> x.lossAfter(300)));
        for (int i = -1; i <= 5; i++) {
            int spirit = i;
            all.append("\n  row ").append(i);
            all.append(answer(() -> x.spiritInTubes(spirit))).append(answer(() -> x.spiritLost(spirit)));
            all.append(answer(() -> x.bathDegrees(spirit))).append(answer(() -> x.tubesIn(spirit)));
        }
        for (int i = -1; i <= 8; i++) {
            appendTube(all, x, i);
        }
        return all.toString();
    }

    private static void appendTube(StringBuilder all, ThermoscopeGallery x, int tube) {
        all.append("\n  tube ").append(tube);
        all.append(answer(() -> x.spiritOf(tube))).append(answer(() -> x.fillOf(tube)));
        all.append(answer(() -> x.temperatureOf(tube))).append(answer(() -> x.surroundingsOf(tube)));
        all.append(answer(() -> x.isSettled(tube) ? 1 : 0)).append(answer(() -> x.isLeaky(tube) ? 1 : 0));
        all.append(answer(() -> x.bathOf(tube))).append(answer(() -> x.height(tube)));
        all.append(" free").append(answer(() -> x.freeHeightAt(tube, -200)));
        all.append(answer(() -> x.freeHeightAt(tube, 1500))).append(answer(() -> x.greatestTemperature(tube)));
        all.append(answer(() -> x.sensitivity(tube))).append(answer(() -> x.markRefusal(tube)));
        all.append(" points").append(answer(() -> x.pointCount(tube)));
        for (int i = -1; i <= 6; i++) {
            int point = i;
            all.append(answer(() -> x.pointDegrees(tube, point))).append(answer(() -> x.pointHeight(tube, point)));
        }
        all.append(" scale").append(answer(() -> x.hasScale(tube) ? 1 : 0)).append(answer(() -> x.reading(tube)));
        all.append(answer(() -> x.readingError(tube))).append(answer(() -> x.scaleAt(tube, 500)));
        all.append(answer(() -> x.fitError(tube))).append(answer(() -> x.bathsToMark(tube)));
        all.append(" future").append(answer(() -> x.heightAfter(tube, 10)));
        all.append(answer(() -> x.temperatureAfter(tube, 3))).append(answer(() -> x.minutesUntilSettled(tube)));
        all.append(answer(() -> x.minutesUntilSpill(tube))).append(answer(() -> x.minutesUntilHeight(tube, 60)));
        for (int i = -1; i <= 4; i++) {
            int other = i;
            all.append(answer(() -> x.dipRefusal(tube, other))).append(answer(() -> x.disagreement(tube, other)));
        }
    }
}
