import java.util.ArrayList;
import java.util.List;

/** Everything that undo brings back, for the Model. Its methods are called with tubes and baths that there are. */
final class ModelState {
    record Row(String name, int value) {
    }

    static final class Tube {
        int spirit;
        int bulb;
        int bore;
        int length;
        int fill;
        int tenths;
        int bath = -1;
        boolean leaky;
        int lost;
        int lastSpill;
        List<int[]> points = new ArrayList<>();

        Tube copy() {
            Tube copy = new Tube();
            copy.spirit = spirit;
            copy.bulb = bulb;
            copy.bore = bore;
            copy.length = length;
            copy.fill = fill;
            copy.tenths = tenths;
            copy.bath = bath;
            copy.leaky = leaky;
            copy.lost = lost;
            copy.lastSpill = lastSpill;
            copy.points = new ArrayList<>(points);
            return copy;
        }

        int tells(int height) {
            List<int[]> byDegrees = new ArrayList<>(points);
            byDegrees.sort((one, other) -> Integer.compare(one[0], other[0]));
            int[] lower = byDegrees.get(0);
            int[] upper = byDegrees.get(points.size() - 1);
            return 10 * lower[0] + 10 * (upper[0] - lower[0]) * (height - lower[1]) / (upper[1] - lower[1]);
        }
    }

    final List<Row> spirits = new ArrayList<>();
    final List<Row> baths = new ArrayList<>();
    final List<Tube> tubes = new ArrayList<>();
    int minute = 0;
    int room;
    int lag;
    int thumbed = -1;
    int thumbLeft = 0;

    ModelState copy() {
        ModelState copy = new ModelState();
        copy.spirits.addAll(spirits);
        copy.baths.addAll(baths);
        for (Tube tube : tubes) {
            copy.tubes.add(tube.copy());
        }
        copy.minute = minute;
        copy.room = room;
        copy.lag = lag;
        copy.thumbed = thumbed;
        copy.thumbLeft = thumbLeft;
        return copy;
    }

    int free(int number, int tenths) {
        Tube tube = tubes.get(number);
        int expansion = spirits.get(tube.spirit).value();
        return tube.fill + Math.floorDiv(tube.bulb * expansion * (tenths + 300), tube.bore * 1000);
    }

    int height(int number) {
        Tube tube = tubes.get(number);
        int free = free(number, tube.tenths);
        return free > tube.length ? tube.length : free;
    }

    int surroundings(int number) {
        if (number == thumbed) {
            return 370;
        }
        int bath = tubes.get(number).bath;
        return 10 * (bath == -1 ? room : baths.get(bath).value());
    }

    int lost() {
        return tubes.stream().mapToInt(tube -> tube.lost).sum();
    }

    void pass(int minutes) {
        for (int i = 0; i < minutes; i++) {
            minute++;
            for (int tube = 0; tube < tubes.size(); tube++) {
                warm(tube);
                leak(tubes.get(tube));
                spill(tube);
                endOfThumb(tube);
            }
        }
    }

    private void warm(int number) {
        Tube tube = tubes.get(number);
        int g = surroundings(number) - tube.tenths;
        tube.tenths += g > -lag && g < lag ? g : g / lag;
    }

    private void leak(Tube tube) {
        if (tube.leaky && tube.fill > 0 && minute % 10 == 0) {
            tube.fill--;
            tube.lost++;
        }
    }

    private void spill(int number) {
        Tube tube = tubes.get(number);
        int above = free(number, tube.tenths) - tube.length;
        tube.lastSpill = above <= 0 ? 0 : above > tube.fill ? tube.fill : above;
        tube.fill -= tube.lastSpill;
        tube.lost += tube.lastSpill;
    }

    private void endOfThumb(int number) {
        if (number == thumbed) {
            thumbLeft--;
            if (thumbLeft == 0) {
                thumbed = -1;
            }
        }
    }

    int dipRefusal(int tube, int bath) {
        if (tubes.get(tube).bath == bath) {
            return 1;
        }
        return thumbed == tube ? 2 : 0;
    }

    int markRefusal(int number) {
        Tube tube = tubes.get(number);
        if (tube.bath == -1) {
            return 1;
        }
        int degrees = baths.get(tube.bath).value();
        if (tube.tenths != surroundings(number) || thumbed == number) {
            return 2;
        }
        if (tube.points.stream().anyMatch(point -> point[0] == degrees)) {
            return 3;
        }
        if (tube.points.stream().anyMatch(point -> point[1] == height(number))) {
            return 4;
        }
        return tube.points.size() == 6 ? 5 : 0;
    }

    private static void refuse(boolean refused) {
        if (refused) {
            throw new IllegalStateException();
        }
    }

    int dip(int tube, int bath) {
        refuse(dipRefusal(tube, bath) != 0);
        tubes.get(tube).bath = bath;
        return surroundings(tube);
    }

    int lift(int tube) {
        int bath = tubes.get(tube).bath;
        refuse(bath == -1);
        tubes.get(tube).bath = -1;
        return bath;
    }

    int mark(int number) {
        refuse(markRefusal(number) != 0);
        Tube tube = tubes.get(number);
        tube.points.add(new int[] {baths.get(tube.bath).value(), height(number)});
        return tube.points.size();
    }

    int layThumb(int tube, int minutes) {
        int before = thumbed;
        thumbed = tube;
        thumbLeft = minutes;
        return before;
    }

    int topUp(int number, int amount) {
        Tube tube = tubes.get(number);
        refuse(tube.fill + amount > 999);
        tube.fill += amount;
        return tube.fill;
    }
}
