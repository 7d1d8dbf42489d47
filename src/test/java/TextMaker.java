import java.util.Random;

/** Makes setup texts for the ModelTest: most can be carried out, some have one token or byte that is wrong. */
final class TextMaker {
    private static final String[] WRONG = {"", ";", "-", "- ", "0", "-1", "1", "21", "41", "61", "10", "1000", "301",
        "99999999999999999999", "a", "b", "zz", "abcde", "gallery", "spirit", "bath", "tube", "pass", "duke", "9",
        "\t", "A", "\u00ff", "\0", "007", "5 5", "x;", ";;"};
    private static final String[] NAMES = {"a", "b", "ab", "ba", "zzzz", "wine", "az", "m"};

    private final Random random;
    private int spirits;
    private int baths;
    private int tubes;
    private int firstBath;

    TextMaker(Random random) {
        this.random = random;
    }

    private int from(int least, int most) {
        int choice = random.nextInt(8);
        return choice == 0 ? least : choice == 1 ? most : least + random.nextInt(most - least + 1);
    }

    String text() {
        StringBuilder text = new StringBuilder();
        text.append("gallery ").append(from(-20, 150)).append(' ').append(from(1, random.nextBoolean() ? 4 : 20));
        text.append(';');
        rows(text);
        for (int i = random.nextInt(25); i > 0 && tubes > 0 && baths > 0; i--) {
            addDeed(text);
        }
        if (random.nextInt(4) == 0) {
            spoil(text);
        }
        if (random.nextInt(12) == 0) {
            fillUp(text);
        }
        text.setLength(Math.min(text.length(), random.nextInt(9) == 0 ? 610 : 600));
        return text.toString();
    }

    /** What is refused, or finds no such tube, is kept only now and then. */
    private void addDeed(StringBuilder text) {
        String deed = deed();
        if (text.length() + deed.length() <= 600
                && (ModelText.read(text + deed).code == 0 || random.nextInt(50) == 0)) {
            text.append(deed);
        }
    }

    private void rows(StringBuilder text) {
        spirits = random.nextInt(9) == 0 ? from(0, 6) : from(1, 3);
        baths = random.nextInt(9) == 0 ? from(0, 5) : from(2, 4);
        tubes = random.nextInt(9) == 0 ? from(0, 9) : from(1, 4);
        int nameOffset = random.nextInt(NAMES.length);
        for (int i = 0; i < spirits; i++) {
            text.append("spirit ").append(name(nameOffset + i)).append(' ').append(from(1, 40)).append(';');
        }
        for (int i = 0; i < baths; i++) {
            text.append("bath ").append(name(nameOffset - 1 - i)).append(' ').append(from(-20, 150)).append(';');
        }
        tubes = spirits == 0 ? 0 : tubes;
        firstBath = nameOffset - 1;
        for (int i = 0; i < tubes; i++) {
            boolean roomy = random.nextBoolean();
            text.append("tube ").append(name(nameOffset + random.nextInt(spirits))).append(' ');
            text.append(from(1, roomy ? 9 : 50)).append(' ').append(from(roomy ? 3 : 1, 9)).append(' ');
            text.append(from(roomy ? 600 : 10, 999)).append(' ');
            text.append(from(0, random.nextInt(4) == 0 ? 999 : 99)).append(';');
        }
    }

    private static String name(int number) {
        return NAMES[Math.floorMod(number, NAMES.length)];
    }

    private String deed() {
        int tube = random.nextInt(Math.min(tubes, 3));
        String bath = name(firstBath - random.nextInt(baths));
        switch (random.nextInt(12)) {
            case 0:
            case 1:
                return "dip " + tube + " " + bath + ";pass " + from(20, 150) + ";fill " + tube + " " + from(1, 9)
                        + ";mark " + tube + ";";
            case 2:
                return "thumb " + tube + " " + from(1, 60) + ";";
            case 3:
                return "leak " + tube + ";";
            case 4:
                return "seal " + tube + "\n;";
            case 5:
                return "fill " + tube + " " + from(1, random.nextInt(4) == 0 ? 999 : 20) + ";";
            case 6:
                return "room " + from(-20, 150) + ";";
            case 7:
                return "lift " + tube + ";";
            case 8:
                return "erase " + tube + " " + random.nextInt(3) + ";";
            case 9:
                return "mark " + tube + ";";
            default:
                return "pass " + from(0, 300) + ";";
        }
    }

    /** Puts something in the place of a token, or cuts the text. */
    private void spoil(StringBuilder text) {
        int from = random.nextInt(text.length());
        while (from > 0 && " ;".indexOf(text.charAt(from - 1)) < 0) {
            from--;
        }
        int to = from;
        while (to < text.length() && " ;".indexOf(text.charAt(to)) < 0) {
            to++;
        }
        if (random.nextInt(5) == 0) {
            text.setLength(to);
        } else {
            text.replace(from, to, WRONG[random.nextInt(WRONG.length)]);
        }
    }

    /** Lets a last statement end just at the end of the full input buffer. */
    private void fillUp(StringBuilder text) {
        String last = random.nextBoolean() ? "room 15;" : "room 15";
        while (text.length() < 600 - last.length()) {
            text.append(random.nextBoolean() ? ' ' : '\n');
        }
        text.append(last);
    }
}
