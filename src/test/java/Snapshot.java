import java.util.ArrayList;
import java.util.List;

/** All that an object tells of itself, of memory only some words: it is used for 512 calls at most. */
final class Snapshot {
    private final List<String> names = new ArrayList<>();
    private final List<Long> values = new ArrayList<>();
    private final RingProcessor x;
    private final int[][] places;

    /** Places are pairs: the first address, and how many words from there. */
    Snapshot(RingProcessor x, int[]... places) {
        this.x = x;
        this.places = places;
        for (int k = 0; k <= 10; k++) {
            add("get(" + k + ")", x.get(k));
        }
        for (int what = 0; what <= 5; what++) {
            add("state(" + what + ")", x.state(what));
        }
        add("saved()", x.saved());
        for (int k = 0; k < 4; k++) {
            add("copy(" + k + ", 0)", x.copy(k, 0));
            add("copy(" + k + ", 1)", x.copy(k, 1));
        }
        for (int[] place : places) {
            for (int address = place[0]; address < place[0] + place[1]; address++) {
                add("peek(" + address + ")", x.peek(address));
            }
        }
    }

    private void add(String name, long value) {
        names.add(name);
        values.add(value);
    }

    /** Nothing is another now, but for what begins with one of these names. */
    void stays(String what, String... but) {
        Snapshot now = new Snapshot(x, places);
        for (int k = 0; k < names.size(); k++) {
            if (!isOneOf(names.get(k), but)) {
                Due.is(what + ": " + names.get(k), now.values.get(k), values.get(k));
            }
        }
    }

    private static boolean isOneOf(String name, String[] but) {
        for (String start : but) {
            if (name.startsWith(start)) {
                return true;
            }
        }
        return false;
    }
}
