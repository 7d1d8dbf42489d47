import java.util.function.IntSupplier;

/** What all tests use: comparing, loading a setup text, and one text with all answers of a gallery. */
final class Checks {
    static final Class<IndexOutOfBoundsException> INDEX = IndexOutOfBoundsException.class;
    static final Class<IllegalArgumentException> ARGUMENT = IllegalArgumentException.class;
    static final Class<IllegalStateException> STATE = IllegalStateException.class;
    static final Class<java.util.NoSuchElementException> ELEMENT = java.util.NoSuchElementException.class;

    private static int wrong = 0;
    private static int done = 0;
    private static String sentence = "";

    private Checks() {
    }

    static void is(String what, double got, double due) {
        done++;
        if (got != due) {
            wrong(what + " answered " + got + ", due is " + due);
        }
    }

    static void is(String what, boolean got, boolean due) {
        is(what, got ? 1 : 0, due ? 1 : 0);
    }

    static void is(String what, String got, String due) {
        done++;
        if (!got.equals(due)) {
            int from = 0;
            while (from < got.length() && from < due.length() && got.charAt(from) == due.charAt(from)) {
                from++;
            }
            from = Math.max(0, from - 80);
            wrong(what + " answered .." + part(got, from) + ".., due is .." + part(due, from) + "..");
        }
    }

    private static String part(String text, int from) {
        return text.substring(from, Math.min(text.length(), from + 160));
    }

    static void wrong(String message) {
        wrong++;
        if (wrong <= 50) {
            System.out.println(sentence.isEmpty() ? message : "\"" + sentence + "\": " + message);
        }
    }

    /** What is tested next, in the words of DOC.md. */
    static void sentence(String words) {
        sentence = words;
    }

    static String sentence() {
        return sentence;
    }

    /** The call must throw just this class and leave every answer as it was. */
    static void refuses(String what, Replayed x, Class<? extends RuntimeException> due, IntSupplier call) {
        String before = answers(x);
        throwing(what, due, call);
        is(what + ": the answers afterwards", answers(x), before);
    }

    /** The call must throw just this class; null is for none. */
    static void throwing(String what, Class<? extends RuntimeException> due, IntSupplier call) {
        done++;
        Class<?> thrown = thrown(call);
        if (thrown != due) {
            wrong(what + " threw " + thrown + ", due is " + due);
        }
    }

    static Class<?> thrown(IntSupplier call) {
        try {
            call.getAsInt();
        } catch (RuntimeException e) {
            return e.getClass();
        }
        return null;
    }

    static void finish(String name) {
        System.out.println(name + ": " + done + " checks, " + wrong + " wrong");
        System.exit(wrong == 0 && done > 0 ? 0 : 1);
    }

    /** Appends a text in pieces of 20 bytes and cuts what is too much. */
    static void put(Replayed x, String text) {
        int length = 0;
        for (int i = 0; i < text.length(); i += 20) {
            length = x.append(four(text, i), four(text, i + 4), four(text, i + 8), four(text, i + 12),
                    four(text, i + 16));
        }
        if (text.length() % 20 != 0) {
            x.truncate(length - 20 + text.length() % 20);
        }
    }

    static int four(String text, int from) {
        int value = 0;
        for (int i = from; i < from + 4; i++) {
            value = value << 8 | (i < text.length() ? text.charAt(i) & 255 : ' ');
        }
        return value;
    }

    static int load(Replayed x, String text) {
        put(x, text);
        return x.load();
    }

    static Replayed loaded(String text) {
        Replayed x = new Replayed();
        is("load of " + text + ": error", load(x, text) < 0 ? x.errorCode() * 1000 + x.errorOffset() : 0, 0);
        return x;
    }

    /** The mark ^ stands before the token that has the error. */
    static void error(String marked, int code) {
        int offset = marked.indexOf('^');
        String text = marked.substring(0, offset) + marked.substring(offset + 1);
        Replayed x = errorAt(text, offset, code);
        is(marked + " state", state(x), state(new Replayed()));
        load(x, "gallery 20 4;");
        is("code after success", x.errorCode(), 0);
        is("offset after success", x.errorOffset(), -1);
    }

    static Replayed errorAt(String text, int offset, int code) {
        Replayed x = new Replayed();
        is(text + " load", load(x, text), ThermoscopeGallery.PARSE_ERROR);
        is(text + " code", x.errorCode(), code);
        is(text + " offset", x.errorOffset(), offset);
        return x;
    }

    /** A number in a text: both bounds are allowed, the first one beyond each is not. */
    static void range(String before, int least, int most, String behind) {
        loaded(before + least + behind);
        loaded(before + most + behind);
        // There are no numbers below 0: the minus sign is a token of its own.
        errorAt(before + (least - 1) + behind, before.length(), least == 0 ? 1 : 2);
        errorAt(before + (most + 1) + behind, before.length(), 2);
    }

    static String output(Replayed x) {
        StringBuilder text = new StringBuilder();
        try {
            for (int i = 0; i < 100; i++) {
                text.append((char) x.outputByte(i));
            }
        } catch (java.util.NoSuchElementException e) {
            return text.toString();
        }
        return "endless";
    }

    static String printed(Replayed x, int tube) {
        int length = x.printTube(tube);
        String text = output(x);
        is("length of the output text", length, text.length());
        return text;
    }

    /** An answer or the name of what was thrown. */
    static String answer(IntSupplier call) {
        try {
            return " " + call.getAsInt();
        } catch (RuntimeException e) {
            return " " + (e.getClass() == INDEX ? "I" : e.getClass() == ELEMENT ? "E" : e.getClass().getName());
        }
    }

    /** All answers but those about the input buffer and the saved states; with the output text and the error. */
    static String answers(Replayed x) {
        return state(x) + " error " + x.errorCode() + " " + x.errorOffset() + " output " + output(x);
    }

    /** All answers that undo brings back. */
    static String state(Replayed x) {
        StringBuilder all = new StringBuilder();
        all.append(x.minute()).append(" room ").append(x.roomDegrees());
        all.append(" thumb ").append(x.thumbedTube()).append(" ").append(x.thumbLeft());
        all.append(" best ").append(x.bestTube()).append(" tallest ").append(x.tallestTube());
        all.append(" spread ").append(x.spread()).append(" worst ").append(x.worstFit());
        all.append(" share ").append(x.settledShare()).append(" mean ").append(x.meanHeight());
        all.append(" missed ").append(x.missedPoints()).append(" difference ").append(x.spiritDifference());
        all.append(" loss").append(answer(() -> x.lossAfter(1))).append(answer(() -> x.lossAfter(300)));
        for (int i = -1; i <= 5; i++) {
            int spirit = i;
            all.append("\n  row ").append(i);
            all.append(answer(() -> x.spiritInTubes(spirit))).append(answer(() -> x.spiritLost(spirit)));
            all.append(answer(() -> x.bathDegrees(spirit))).append(answer(() -> x.tubesIn(spirit)));
        }
        for (int i = -1; i <= 8; i++) {
            appendTube(all, x, i);
        }
        return all.toString();
    }

    private static void appendTube(StringBuilder all, Replayed x, int tube) {
        all.append("\n  tube ").append(tube);
        all.append(answer(() -> x.spiritOf(tube))).append(answer(() -> x.fillOf(tube)));
        all.append(answer(() -> x.temperatureOf(tube))).append(answer(() -> x.surroundingsOf(tube)));
        all.append(answer(() -> x.isSettled(tube) ? 1 : 0)).append(answer(() -> x.isLeaky(tube) ? 1 : 0));
        all.append(answer(() -> x.bathOf(tube))).append(answer(() -> x.height(tube)));
        all.append(" free").append(answer(() -> x.freeHeightAt(tube, -200)));
        all.append(answer(() -> x.freeHeightAt(tube, 1500))).append(answer(() -> x.greatestTemperature(tube)));
        all.append(answer(() -> x.sensitivity(tube))).append(answer(() -> x.markRefusal(tube)));
        all.append(" points").append(answer(() -> x.pointCount(tube)));
        for (int i = -1; i <= 6; i++) {
            int point = i;
            all.append(answer(() -> x.pointDegrees(tube, point))).append(answer(() -> x.pointHeight(tube, point)));
        }
        all.append(" scale").append(answer(() -> x.hasScale(tube) ? 1 : 0)).append(answer(() -> x.reading(tube)));
        all.append(answer(() -> x.readingError(tube))).append(answer(() -> x.scaleAt(tube, 500)));
        all.append(answer(() -> x.fitError(tube))).append(answer(() -> x.bathsToMark(tube)));
        all.append(" future").append(answer(() -> x.heightAfter(tube, 10)));
        all.append(answer(() -> x.temperatureAfter(tube, 3))).append(answer(() -> x.minutesUntilSettled(tube)));
        all.append(answer(() -> x.minutesUntilSpill(tube))).append(answer(() -> x.minutesUntilHeight(tube, 60)));
        for (int i = -1; i <= 4; i++) {
            int other = i;
            all.append(answer(() -> x.dipRefusal(tube, other))).append(answer(() -> x.disagreement(tube, other)));
        }
    }
}
