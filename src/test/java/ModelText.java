import java.math.BigInteger;
import java.util.ArrayList;
import java.util.List;
import java.util.Map;
import java.util.regex.Matcher;
import java.util.regex.Pattern;

/** A setup text, read for the Model: its tokens are cut first, then each statement is read by its form. */
final class ModelText {
    /** What stands behind the first word of a statement, part by part; the ranges of numbers are below. */
    private static final Map<String, String> FORMS = Map.ofEntries(Map.entry("gallery", "D,lag"),
            Map.entry("spirit", "NAME,expansion"), Map.entry("bath", "NAME,D"),
            Map.entry("tube", "SPIRIT,bulb,bore,length,fill"), Map.entry("leak", "TUBE"), Map.entry("seal", "TUBE"),
            Map.entry("dip", "TUBE,BATH"), Map.entry("lift", "TUBE"), Map.entry("mark", "TUBE"),
            Map.entry("thumb", "TUBE,thumb"), Map.entry("fill", "TUBE,amount"), Map.entry("erase", "TUBE,POINT"),
            Map.entry("room", "D"), Map.entry("pass", "pass"));
    private static final Map<String, int[]> RANGES = Map.of("lag", new int[] {1, 20}, "expansion", new int[] {1, 40},
            "bulb", new int[] {1, 50}, "bore", new int[] {1, 9}, "length", new int[] {10, 999},
            "fill", new int[] {0, 999}, "thumb", new int[] {1, 60}, "amount", new int[] {1, 999},
            "pass", new int[] {0, 300});

    final ModelState state = new ModelState();
    int code = 0;
    int offset = -1;
    private final List<String> tokens = new ArrayList<>();
    private final List<Integer> offsets = new ArrayList<>();
    private int next = 0;
    private String name;

    private static final class Wrong extends RuntimeException {
        private static final long serialVersionUID = 1;
        final int code;

        Wrong(int code) {
            this.code = code;
        }
    }

    private ModelText(String text) {
        Matcher matcher = Pattern.compile("[a-z]+|[0-9]+|[^ \n]", Pattern.DOTALL).matcher(text);
        while (matcher.find()) {
            tokens.add(matcher.group());
            offsets.add(matcher.start());
        }
        tokens.add("");
        offsets.add(text.length());
    }

    static ModelText read(String text) {
        ModelText read = new ModelText(text);
        try {
            read.statements();
        } catch (Wrong wrong) {
            read.code = wrong.code;
            read.offset = read.offsets.get(read.next);
        }
        return read;
    }

    private String token() {
        return tokens.get(next);
    }

    private void need(boolean holds, int otherwise) {
        if (!holds) {
            throw new Wrong(otherwise);
        }
    }

    private void statements() {
        need(token().equals("gallery"), 1);
        statement();
        while (!token().isEmpty()) {
            need(FORMS.containsKey(token()) && !token().equals("gallery"), 1);
            need(!token().equals("spirit") || state.spirits.size() < 5, 5);
            need(!token().equals("bath") || state.baths.size() < 4, 5);
            need(!token().equals("tube") || state.tubes.size() < 8, 5);
            statement();
        }
    }

    private void statement() {
        String word = token();
        next++;
        String[] parts = FORMS.get(word).split(",");
        int[] values = new int[5];
        for (int i = 0; i < parts.length; i++) {
            values[i] = part(parts[i], values[0]);
            next++;
        }
        need(token().equals(";"), 1);
        try {
            carryOut(word, values);
        } catch (IllegalStateException e) {
            throw new Wrong(6);
        }
        next++;
    }

    private int part(String part, int first) {
        switch (part) {
            case "NAME":
                return newName();
            case "SPIRIT":
                return known(state.spirits);
            case "BATH":
                return known(state.baths);
            case "TUBE":
                return number(0, state.tubes.size() - 1);
            case "POINT":
                return number(0, state.tubes.get(first).points.size() - 1);
            case "D":
                return degrees();
            default:
                return number(RANGES.get(part)[0], RANGES.get(part)[1]);
        }
    }

    private int newName() {
        need(token().matches("[a-z]+"), 1);
        need(token().length() <= 4, 2);
        need(indexOf(state.spirits) == -1 && indexOf(state.baths) == -1, 3);
        name = token();
        return 0;
    }

    private int known(List<ModelState.Row> rows) {
        need(token().matches("[a-z]+"), 1);
        need(indexOf(rows) != -1, 4);
        return indexOf(rows);
    }

    private int indexOf(List<ModelState.Row> rows) {
        for (int i = 0; i < rows.size(); i++) {
            if (rows.get(i).name().equals(token())) {
                return i;
            }
        }
        return -1;
    }

    private int number(int least, int most) {
        need(token().matches("[0-9]+"), 1);
        BigInteger number = new BigInteger(token());
        need(number.compareTo(BigInteger.valueOf(least)) >= 0 && number.compareTo(BigInteger.valueOf(most)) <= 0, 2);
        return number.intValue();
    }

    private int degrees() {
        if (token().equals("-")) {
            next++;
            return -number(0, 20);
        }
        return number(0, 150);
    }

    private void carryOut(String word, int[] values) {
        switch (word) {
            case "gallery":
                state.room = values[0];
                state.lag = values[1];
                break;
            case "spirit":
                state.spirits.add(new ModelState.Row(name, values[1]));
                break;
            case "bath":
                state.baths.add(new ModelState.Row(name, values[1]));
                break;
            case "tube":
                addTube(values);
                break;
            case "room":
                state.room = values[0];
                break;
            case "pass":
                state.pass(values[0]);
                break;
            default:
                carryOutOn(word, values[0], values[1]);
        }
    }

    private void carryOutOn(String word, int tube, int value) {
        switch (word) {
            case "dip":
                state.dip(tube, value);
                break;
            case "lift":
                state.lift(tube);
                break;
            case "mark":
                state.mark(tube);
                break;
            case "thumb":
                state.layThumb(tube, value);
                break;
            case "fill":
                state.topUp(tube, value);
                break;
            case "erase":
                state.tubes.get(tube).points.remove(value);
                break;
            default:
                state.tubes.get(tube).leaky = word.equals("leak");
        }
    }

    private void addTube(int[] values) {
        ModelState.Tube tube = new ModelState.Tube();
        tube.spirit = values[0];
        tube.bulb = values[1];
        tube.bore = values[2];
        tube.length = values[3];
        tube.fill = values[4];
        tube.tenths = 10 * state.room;
        state.tubes.add(tube);
    }
}
