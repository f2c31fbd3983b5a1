import java.util.ArrayDeque;
import java.util.ArrayList;
import java.util.Deque;
import java.util.List;
import java.util.TreeSet;

/**
 * What DOC.md says, written a second time and in another way: islands are objects, sets are sets, the pad is a String,
 * a fault is found by trying which beginnings can still become a chip, and nothing is cut short.
 */
final class Model {
    static final int NO_SUCH = -1, BAD_VALUE = -2, BAD_TEXT = -3, TOO_MANY = -4, NOT_POSSIBLE = -5, NONE = -6;

    enum State { AWAKE, FALLING, ASLEEP, WAITING, RISING }

    private static final class Island {
        boolean isolator, keeper;
        int rise, load, value, kept, left, noise;
        State state = State.AWAKE;
        TreeSet<Integer> reads = new TreeSet<>();

        Island copy() {
            Island c = new Island();
            c.isolator = isolator;
            c.keeper = keeper;
            c.rise = rise;
            c.load = load;
            c.value = value;
            c.kept = kept;
            c.left = left;
            c.noise = noise;
            c.state = state;
            c.reads = new TreeSet<>(reads);
            return c;
        }

        boolean isHeard() {
            return state == State.AWAKE || state == State.FALLING;
        }

        int tells() {
            return isHeard() ? value : isolator ? 0 : 255;
        }
    }

    private static final class World {
        List<Island> islands = new ArrayList<>();
        List<Integer> queue = new ArrayList<>();
        int current = 20, asking = 0, ticks = 0, lost = 0, greatest = 0, noise = 0;

        World copy() {
            World c = new World();
            for (Island island : islands) {
                c.islands.add(island.copy());
            }
            c.queue = new ArrayList<>(queue);
            c.current = current;
            c.asking = asking;
            c.ticks = ticks;
            c.lost = lost;
            c.greatest = greatest;
            c.noise = noise;
            return c;
        }

        int mask(State state) {
            int mask = 0;
            for (int i = 0; i < islands.size(); i++) {
                mask += islands.get(i).state == state ? 1 << i : 0;
            }
            return mask;
        }

        boolean allAre(State state) {
            return islands.stream().allMatch(i -> i.state == state);
        }

        int risingLoad() {
            return islands.stream().filter(i -> i.state == State.RISING).mapToInt(i -> i.load).sum();
        }

        void wake(int number) {
            islands.get(number).state = State.WAITING;
            queue.add(number);
        }

        void tick() {
            World before = copy();
            for (int i = 0; i < islands.size(); i++) {
                Island island = islands.get(i);
                if (before.islands.get(i).state == State.AWAKE) {
                    for (int other : island.reads) {
                        Island teller = before.islands.get(other);
                        island.value += teller.tells();
                        if (!teller.isHeard() && !teller.isolator) {
                            island.noise++;
                            noise++;
                        }
                    }
                    island.value %= 256;
                }
            }
            for (Island island : islands) {
                if (island.state == State.FALLING) {
                    island.state = State.ASLEEP;
                    if (island.keeper) {
                        island.kept = island.value;
                    }
                    lost += !island.keeper && island.value != 0 ? 1 : 0;
                    island.value = 0;
                }
            }
            for (Island island : islands) {
                if (island.state == State.RISING && --island.left == 0) {
                    island.state = State.AWAKE;
                    island.value = island.keeper ? island.kept : island.value;
                }
            }
            if (asking == 1) {
                for (int i = 0; i < islands.size(); i++) {
                    int number = i;
                    boolean asked = islands.stream().anyMatch(r -> r.state == State.AWAKE && r.reads.contains(number));
                    if (asked && islands.get(i).state == State.ASLEEP) {
                        wake(i);
                    }
                }
            }
            for (Integer number : new ArrayList<>(queue)) {
                Island island = islands.get(number);
                boolean noneRises = islands.stream().noneMatch(i -> i.state == State.RISING);
                if (noneRises || island.load + risingLoad() <= current) {
                    island.state = State.RISING;
                    island.left = island.rise;
                    queue.remove(number);
                }
            }
            ticks++;
            greatest = Math.max(greatest, risingLoad());
        }

        int allAwake() {
            World w = copy();
            for (int i = 0; i < w.islands.size(); i++) {
                if (w.islands.get(i).state == State.ASLEEP) {
                    w.wake(i);
                }
            }
            for (int ticks = 0; ticks <= 200; ticks++) {
                if (w.allAre(State.AWAKE)) {
                    return ticks;
                }
                w.tick();
            }
            return NONE;
        }
    }

    private World world = new World();
    private String pad = "";
    private final Deque<World> history = new ArrayDeque<>();
    private final World[] slots = new World[2];

    private void change() {
        history.addLast(world.copy());
        if (history.size() > 6) {
            history.removeFirst();
        }
    }

    private Island island(int number) {
        return number < 0 || number >= world.islands.size() ? null : world.islands.get(number);
    }

    int set(int setting, int value) {
        if (setting == 0 && value >= 1 && value <= 60) {
            change();
            int old = world.current;
            world.current = value;
            return old;
        }
        if (setting == 1 && (value == 0 || value == 1)) {
            change();
            int old = world.asking;
            world.asking = value;
            return old;
        }
        return BAD_VALUE;
    }

    int build(boolean isolator, boolean keeper, int rise, int load) {
        if (rise < 1 || rise > 9 || load < 1 || load > 20) {
            return BAD_VALUE;
        }
        if (world.islands.size() == 8) {
            return TOO_MANY;
        }
        change();
        Island island = new Island();
        island.isolator = isolator;
        island.keeper = keeper;
        island.rise = rise;
        island.load = load;
        world.islands.add(island);
        return world.islands.size() - 1;
    }

    private static boolean isChip(String text) {
        String[] parts = text.split(";", -1);
        for (int i = 0; i < parts.length; i++) {
            if (!parts[i].matches("i?k?[1-9],([1-9]|1[0-9]|20)(>[0-7])*") || parts[i].contains(">" + i)) {
                return false;
            }
        }
        return parts.length <= 8;
    }

    private static boolean isBeginning(String text) {
        for (String rest : new String[] {"", "1,1", ",1", "1", "0"}) {
            if (isChip(text + rest)) {
                return true;
            }
        }
        return false;
    }

    int fault() {
        for (int at = 0; at < pad.length(); at++) {
            if (!isBeginning(pad.substring(0, at + 1))) {
                return at;
            }
        }
        return isChip(pad) ? NONE : pad.length();
    }

    int read() {
        if (!isChip(pad)) {
            return BAD_TEXT;
        }
        World fresh = new World();
        fresh.current = world.current;
        fresh.asking = world.asking;
        String[] parts = pad.split(";");
        for (String part : parts) {
            String[] pieces = part.split("[,>]");
            Island island = new Island();
            island.isolator = part.contains("i");
            island.keeper = part.contains("k");
            island.rise = pieces[0].charAt(pieces[0].length() - 1) - '0';
            island.load = Integer.parseInt(pieces[1]);
            for (int i = 2; i < pieces.length; i++) {
                int other = Integer.parseInt(pieces[i]);
                if (other >= parts.length) {
                    return NO_SUCH;
                }
                island.reads.add(other);
            }
            fresh.islands.add(island);
        }
        change();
        world = fresh;
        pad = "";
        return parts.length;
    }

    private static int mask(Iterable<Integer> set) {
        int mask = 0;
        for (int i : set) {
            mask |= 1 << i;
        }
        return mask;
    }

    int link(int number, int other, boolean reads) {
        Island island = island(number);
        if (island == null || island(other) == null) {
            return NO_SUCH;
        }
        if (number == other) {
            return BAD_VALUE;
        }
        if (island.reads.contains(other) == reads) {
            return NOT_POSSIBLE;
        }
        change();
        if (reads) {
            island.reads.add(other);
        } else {
            island.reads.remove(other);
        }
        return mask(island.reads);
    }

    int value(int number, int value) {
        Island island = island(number);
        if (island == null) {
            return NO_SUCH;
        }
        if (value < 0 || value > 255) {
            return BAD_VALUE;
        }
        if (island.state != State.AWAKE) {
            return NOT_POSSIBLE;
        }
        change();
        int old = island.value;
        island.value = value;
        return old;
    }

    int sleep(int number) {
        Island island = island(number);
        if (island == null) {
            return NO_SUCH;
        }
        if (island.state != State.AWAKE) {
            return NOT_POSSIBLE;
        }
        change();
        island.state = State.FALLING;
        return (int) world.islands.stream().filter(i -> i.state == State.AWAKE && i.reads.contains(number)).count();
    }

    int wake(int number) {
        Island island = island(number);
        if (island == null) {
            return NO_SUCH;
        }
        if (island.state != State.ASLEEP) {
            return NOT_POSSIBLE;
        }
        change();
        world.wake(number);
        return world.queue.size();
    }

    int pass(int ticks) {
        if (ticks < 1 || ticks > 200) {
            return BAD_VALUE;
        }
        change();
        int before = world.noise;
        for (int tick = 0; tick < ticks; tick++) {
            world.tick();
        }
        return world.noise - before;
    }

    int of(int number, int what) {
        Island i = island(number);
        if (i == null) {
            return NO_SUCH;
        }
        TreeSet<Integer> readers = new TreeSet<>();
        for (int other = 0; other < world.islands.size(); other++) {
            if (world.islands.get(other).reads.contains(number)) {
                readers.add(other);
            }
        }
        int place = world.queue.indexOf(number);
        int[] all = {i.state.ordinal(), i.value, i.kept, i.isolator ? 1 : 0, i.keeper ? 1 : 0, i.rise, i.load, mask(i.reads),
            mask(readers), i.tells(), i.left, place < 0 ? NONE : place, i.noise};
        return what < 0 || what >= all.length ? BAD_VALUE : all[what];
    }

    int count(int what) {
        World w = world;
        int[] all = {w.islands.size(), w.mask(State.AWAKE), w.mask(State.ASLEEP), w.mask(State.WAITING), w.mask(State.RISING),
            w.risingLoad(), w.greatest, w.noise, w.lost, w.ticks, w.current, w.asking, pad.length(), history.size()};
        return what < 0 || what >= all.length ? BAD_VALUE : all[what];
    }

    int waiting(int place) {
        return place < 0 || place >= world.queue.size() ? NO_SUCH : world.queue.get(place);
    }

    int ifPassed(int ticks, int what) {
        if (ticks < 1 || ticks > 200 || what < 0 || what > 3) {
            return BAD_VALUE;
        }
        World w = world.copy();
        int greatest = 0;
        for (int tick = 0; tick < ticks; tick++) {
            w.tick();
            greatest = Math.max(greatest, w.risingLoad());
        }
        int sum = w.islands.stream().mapToInt(i -> i.value).sum();
        return new int[] {w.noise - world.noise, w.mask(State.AWAKE), greatest, sum}[what];
    }

    int allAwake() {
        return world.allAwake();
    }

    int leastCurrent(int ticks) {
        if (ticks < 0 || ticks > 200) {
            return BAD_VALUE;
        }
        for (int current = 1; current <= 60; current++) {
            World w = world.copy();
            w.current = current;
            int all = w.allAwake();
            if (all != NONE && all <= ticks) {
                return current;
            }
        }
        return NONE;
    }

    int quiet(int ticks) {
        if (ticks < 1 || ticks > 50) {
            return BAD_VALUE;
        }
        int quiet = 0;
        for (int i = 0; i < world.islands.size(); i++) {
            World w = world.copy();
            if (w.islands.get(i).state == State.AWAKE) {
                w.islands.get(i).state = State.FALLING;
                for (int tick = 0; tick < ticks; tick++) {
                    w.tick();
                }
                quiet |= w.noise == world.noise ? 1 << i : 0;
            }
        }
        return quiet;
    }

    int put(long characters) {
        StringBuilder text = new StringBuilder();
        boolean ended = false;
        for (int at = 0; at < 8; at++) {
            int code = (int) (characters >> 8 * at & 0xFF);
            if (code == 0) {
                ended = true;
            } else if (ended || code < 33 || code > 126) {
                return BAD_VALUE;
            } else {
                text.insert(0, (char) code);
            }
        }
        if (text.length() == 0) {
            return BAD_VALUE;
        }
        if (pad.length() + text.length() > 64) {
            return TOO_MANY;
        }
        pad += text;
        return pad.length();
    }

    int wipe() {
        int length = pad.length();
        pad = "";
        return length;
    }

    int undo() {
        if (history.isEmpty()) {
            return NOT_POSSIBLE;
        }
        world = history.removeLast();
        return history.size();
    }

    int save(int slot) {
        if (slot != 0 && slot != 1) {
            return BAD_VALUE;
        }
        slots[slot] = world.copy();
        return world.islands.size();
    }

    int restore(int slot) {
        if (slot != 0 && slot != 1) {
            return BAD_VALUE;
        }
        if (slots[slot] == null) {
            return NOT_POSSIBLE;
        }
        change();
        world = slots[slot].copy();
        return world.islands.size();
    }
}
