/**
 * Islands of a chip that go to sleep and wake up. What each call does and answers is told, promise by promise, in
 * ../shared/DOC.md; the comments here only say why something is done as it is.
 */
public final class SleepingIslands {
    public static final int NO_SUCH = -1, BAD_VALUE = -2, BAD_TEXT = -3, TOO_MANY = -4, NOT_POSSIBLE = -5, NONE = -6;
    public static final int CURRENT = 0, ASKING = 1;
    public static final int AWAKE = 0, FALLING = 1, ASLEEP = 2, WAITING = 3, RISING = 4;

    private static final int MOST_ISLANDS = 8;
    private static final int MOST_RISE = 9;
    private static final int MOST_LOAD = 20;
    private static final int MOST_VALUE = 255;
    private static final int MOST_CURRENT = 60;
    private static final int FIRST_CURRENT = 20;
    private static final int MOST_TICKS = 200;
    private static final int MOST_QUIET_TICKS = 50;
    private static final int MOST_SIGNS = 64;
    private static final int SIGNS_OF_A_PUT = 8;
    private static final int FIRST_SIGN = 33;
    private static final int LAST_SIGN = 126;
    private static final int MOST_UNDOS = 6;
    private static final int SLOTS = 2;
    private static final int NOISE = 255;

    private final Chip chip;
    /** A second chip, on which everything is tried that must not change the first one. */
    private final Chip trial;
    private final Pad pad;
    private final ChipReader reader;
    private final History history;
    private final Chip firstSlot;
    private final Chip secondSlot;
    private int savedSlots;

    public SleepingIslands() {
        chip = new Chip();
        trial = new Chip();
        pad = new Pad();
        reader = new ChipReader();
        history = new History();
        firstSlot = new Chip();
        secondSlot = new Chip();
        savedSlots = 0;
    }

    // ---- changes

    public int set(int setting, int value) {
        if (setting == CURRENT) {
            return setCurrent(value);
        }
        if (setting == ASKING) {
            return setAsking(value);
        }
        return BAD_VALUE;
    }

    private int setCurrent(int value) {
        if (!isWithin(value, 1, MOST_CURRENT)) {
            return BAD_VALUE;
        }
        history.record(chip);
        int previous = chip.current;
        chip.current = value;
        return previous;
    }

    private int setAsking(int value) {
        if (!isWithin(value, 0, 1)) {
            return BAD_VALUE;
        }
        history.record(chip);
        int previous = chip.asking;
        chip.asking = value;
        return previous;
    }

    public int build(boolean isolator, boolean keeper, int rise, int load) {
        if (!isWithin(rise, 1, MOST_RISE) || !isWithin(load, 1, MOST_LOAD)) {
            return BAD_VALUE;
        }
        if (chip.islands >= MOST_ISLANDS) {
            return TOO_MANY;
        }
        history.record(chip);
        int number = chip.islands;
        chip.addIsland(isolator, keeper, rise, load, 0);
        return number;
    }

    public int read() {
        if (reader.findFault(pad) != NONE) {
            return BAD_TEXT;
        }
        Chip inText = reader.chip;
        if (!inText.hasAllThatAreRead()) {
            return NO_SUCH;
        }
        history.record(chip);
        inText.current = chip.current;
        inText.asking = chip.asking;
        chip.copyFrom(inText);
        pad.length = 0;
        return chip.islands;
    }

    public int link(int island, int other, boolean reads) {
        if (!chip.has(island) || !chip.has(other)) {
            return NO_SUCH;
        }
        if (island == other) {
            return BAD_VALUE;
        }
        if (isIn(chip.reads[island], other) == reads) {
            return NOT_POSSIBLE;
        }
        history.record(chip);
        chip.reads[island] ^= 1 << other;
        return chip.reads[island];
    }

    public int value(int island, int value) {
        if (!chip.has(island)) {
            return NO_SUCH;
        }
        if (!isWithin(value, 0, MOST_VALUE)) {
            return BAD_VALUE;
        }
        if (chip.states[island] != AWAKE) {
            return NOT_POSSIBLE;
        }
        history.record(chip);
        int previous = chip.values[island];
        chip.values[island] = value;
        return previous;
    }

    public int sleep(int island) {
        if (!chip.has(island)) {
            return NO_SUCH;
        }
        if (chip.states[island] != AWAKE) {
            return NOT_POSSIBLE;
        }
        history.record(chip);
        chip.states[island] = FALLING;
        return Integer.bitCount(chip.readersOf(island) & chip.islandsThatAre(AWAKE));
    }

    public int wake(int island) {
        if (!chip.has(island)) {
            return NO_SUCH;
        }
        if (chip.states[island] != ASLEEP) {
            return NOT_POSSIBLE;
        }
        history.record(chip);
        chip.orderToWake(island);
        return chip.inQueue;
    }

    public int pass(int ticks) {
        if (!isWithin(ticks, 1, MOST_TICKS)) {
            return BAD_VALUE;
        }
        history.record(chip);
        int noiseBefore = chip.noiseSoFar();
        chip.letPass(ticks);
        return chip.noiseSoFar() - noiseBefore;
    }

    // ---- what there is; nothing changes

    public int of(int island, int what) {
        if (!chip.has(island)) {
            return NO_SUCH;
        }
        switch (what) {
            case 0: return chip.states[island];
            case 1: return chip.values[island];
            case 2: return chip.kept[island];
            case 3: return isIn(chip.isolators, island) ? 1 : 0;
            case 4: return isIn(chip.keepers, island) ? 1 : 0;
            case 5: return chip.rises[island];
            case 6: return chip.loads[island];
            case 7: return chip.reads[island];
            case 8: return chip.readersOf(island);
            case 9: return chip.whatTells(island);
            case 10: return chip.left[island];
            case 11: return chip.placeInQueue(island);
            case 12: return chip.noise[island];
            default: return BAD_VALUE;
        }
    }

    public int count(int what) {
        switch (what) {
            case 0: return chip.islands;
            case 1: return chip.islandsThatAre(AWAKE);
            case 2: return chip.islandsThatAre(ASLEEP);
            case 3: return chip.islandsThatAre(WAITING);
            case 4: return chip.islandsThatAre(RISING);
            case 5: return chip.risingLoad();
            case 6: return chip.greatestLoad;
            case 7: return chip.noiseSoFar();
            case 8: return chip.lostValues;
            case 9: return chip.ticks;
            case 10: return chip.current;
            case 11: return chip.asking;
            case 12: return pad.length;
            case 13: return history.many;
            default: return BAD_VALUE;
        }
    }

    public int waiting(int place) {
        return chip.islandInQueue(place);
    }

    // ---- what if; nothing changes

    public int ifPassed(int ticks, int what) {
        if (!isWithin(ticks, 1, MOST_TICKS) || !isWithin(what, 0, 3)) {
            return BAD_VALUE;
        }
        trial.copyFrom(chip);
        trial.greatestLoad = 0;
        trial.letPass(ticks);
        switch (what) {
            case 0: return trial.noiseSoFar() - chip.noiseSoFar();
            case 1: return trial.islandsThatAre(AWAKE);
            case 2: return trial.greatestLoad;
            default: return trial.sumOfValues();
        }
    }

    public int allAwake() {
        return ticksUntilAllAwake(chip.current, MOST_TICKS);
    }

    public int leastCurrent(int ticks) {
        if (!isWithin(ticks, 0, MOST_TICKS)) {
            return BAD_VALUE;
        }
        // More current is not always sooner (a greater island may slip in ahead), so each one is tried.
        for (int current = 1; current <= MOST_CURRENT; current++) {
            if (ticksUntilAllAwake(current, ticks) != NONE) {
                return current;
            }
        }
        return NONE;
    }

    private int ticksUntilAllAwake(int current, int mostTicks) {
        trial.copyFrom(chip);
        trial.current = current;
        trial.orderSleepersToWake();
        for (int ticks = 0; ticks <= mostTicks; ticks++) {
            if (trial.areAllAwake()) {
                return ticks;
            }
            if (trial.isAtRest()) {
                return NONE;
            }
            // The values have no say in who is awake, so they are left out.
            trial.moveOn();
        }
        return NONE;
    }

    public int quiet(int ticks) {
        if (!isWithin(ticks, 1, MOST_QUIET_TICKS)) {
            return BAD_VALUE;
        }
        int quietOnes = 0;
        for (int island = 0; island < MOST_ISLANDS; island++) {
            if (chip.states[island] == AWAKE && sleepsQuietly(island, ticks)) {
                quietOnes |= 1 << island;
            }
        }
        return quietOnes;
    }

    private boolean sleepsQuietly(int island, int ticks) {
        if (!isWithin(island, 0, MOST_ISLANDS - 1)) {
            return false;
        }
        trial.copyFrom(chip);
        trial.states[island] = FALLING;
        trial.letPass(ticks);
        return trial.noiseSoFar() == chip.noiseSoFar();
    }

    // ---- texts

    public int put(long characters) {
        int many = signsIn(characters);
        if (many == 0) {
            return BAD_VALUE;
        }
        if (pad.length + many > MOST_SIGNS) {
            return TOO_MANY;
        }
        for (int behind = many - 1; behind >= 0; behind--) {
            pad.append((char) (characters >>> (8 * behind) & 255));
        }
        return pad.length;
    }

    /** How many signs a put brings; 0 if it may not be put. */
    private static int signsIn(long characters) {
        long rest = characters;
        int many = 0;
        while (many < SIGNS_OF_A_PUT && (rest & 255) != 0) {
            if (!isWithin((int) (rest & 255), FIRST_SIGN, LAST_SIGN)) {
                return 0;
            }
            rest >>>= 8;
            many++;
        }
        return rest == 0 ? many : 0;
    }

    public int wipe() {
        int previous = pad.length;
        pad.length = 0;
        return previous;
    }

    public int fault() {
        return reader.findFault(pad);
    }

    // ---- undo, saving

    public int undo() {
        if (history.many == 0) {
            return NOT_POSSIBLE;
        }
        history.takeBack(chip);
        return history.many;
    }

    public int save(int slot) {
        if (!isWithin(slot, 0, SLOTS - 1)) {
            return BAD_VALUE;
        }
        slotOf(slot).copyFrom(chip);
        savedSlots |= 1 << slot;
        return chip.islands;
    }

    public int restore(int slot) {
        if (!isWithin(slot, 0, SLOTS - 1)) {
            return BAD_VALUE;
        }
        if (!isIn(savedSlots, slot)) {
            return NOT_POSSIBLE;
        }
        history.record(chip);
        chip.copyFrom(slotOf(slot));
        return chip.islands;
    }

    private Chip slotOf(int slot) {
        return slot == 0 ? firstSlot : secondSlot;
    }

    private static boolean isWithin(int number, int least, int most) {
        return number >= least && number <= most;
    }

    private static boolean isIn(int set, int island) {
        return (set >> island & 1) != 0;
    }

    /** Everything that undo, save and restore take along: the islands, the settings and what is counted. */
    private static final class Chip {
        /** The state at places where there is no island, so that loops may go over all places. */
        private static final int ABSENT = -1;

        private int islands;
        private int isolators;
        private int keepers;
        private final int[] rises = new int[MOST_ISLANDS];
        private final int[] loads = new int[MOST_ISLANDS];
        private final int[] reads = new int[MOST_ISLANDS];
        private final int[] states = new int[MOST_ISLANDS];
        private final int[] values = new int[MOST_ISLANDS];
        private final int[] kept = new int[MOST_ISLANDS];
        private final int[] left = new int[MOST_ISLANDS];
        private final int[] noise = new int[MOST_ISLANDS];
        private final int[] queue = new int[MOST_ISLANDS];
        private int inQueue;
        private int current;
        private int asking;
        private int ticks;
        private int lostValues;
        private int greatestLoad;
        /** What the islands tell at the beginning of a tick; made once, and used again in every tick. */
        private final int[] told = new int[MOST_ISLANDS];

        private Chip() {
            current = FIRST_CURRENT;
            asking = 0;
            clear();
        }

        /** Takes all islands away, and what is counted; the settings stay. */
        private void clear() {
            islands = 0;
            isolators = 0;
            keepers = 0;
            inQueue = 0;
            ticks = 0;
            lostValues = 0;
            greatestLoad = 0;
            for (int place = 0; place < MOST_ISLANDS; place++) {
                rises[place] = 0;
                loads[place] = 0;
                reads[place] = 0;
                states[place] = ABSENT;
                values[place] = 0;
                kept[place] = 0;
                left[place] = 0;
                noise[place] = 0;
                queue[place] = 0;
            }
        }

        private void copyFrom(Chip other) {
            islands = other.islands;
            isolators = other.isolators;
            keepers = other.keepers;
            inQueue = other.inQueue;
            current = other.current;
            asking = other.asking;
            ticks = other.ticks;
            lostValues = other.lostValues;
            greatestLoad = other.greatestLoad;
            for (int place = 0; place < MOST_ISLANDS; place++) {
                rises[place] = other.rises[place];
                loads[place] = other.loads[place];
                reads[place] = other.reads[place];
                states[place] = other.states[place];
                values[place] = other.values[place];
                kept[place] = other.kept[place];
                left[place] = other.left[place];
                noise[place] = other.noise[place];
                queue[place] = other.queue[place];
            }
        }

        private static boolean isPlace(int number) {
            return number >= 0 && number < MOST_ISLANDS;
        }

        private boolean has(int island) {
            return isPlace(island) && island < islands;
        }

        private void addIsland(boolean isolator, boolean keeper, int rise, int load, int read) {
            int number = islands;
            if (!isPlace(number)) {
                return;
            }
            islands++;
            if (isolator) {
                isolators |= 1 << number;
            }
            if (keeper) {
                keepers |= 1 << number;
            }
            rises[number] = rise;
            loads[number] = load;
            reads[number] = read;
            states[number] = AWAKE;
        }

        private boolean hasAllThatAreRead() {
            int allRead = 0;
            for (int island = 0; island < MOST_ISLANDS; island++) {
                allRead |= reads[island];
            }
            return allRead >> islands == 0;
        }

        // -- looking

        private int islandsThatAre(int state) {
            int found = 0;
            for (int island = 0; island < MOST_ISLANDS; island++) {
                if (states[island] == state) {
                    found |= 1 << island;
                }
            }
            return found;
        }

        private int readersOf(int island) {
            int found = 0;
            for (int other = 0; other < MOST_ISLANDS; other++) {
                if (isIn(reads[other], island)) {
                    found |= 1 << other;
                }
            }
            return found;
        }

        private boolean isHeard(int island) {
            return isPlace(island) && (states[island] == AWAKE || states[island] == FALLING);
        }

        private int whatTells(int island) {
            if (!isPlace(island)) {
                return 0;
            }
            if (isHeard(island)) {
                return values[island];
            }
            return isIn(isolators, island) ? 0 : NOISE;
        }

        private int islandInQueue(int place) {
            return isPlace(place) && place < inQueue ? queue[place] : NO_SUCH;
        }

        private int placeInQueue(int island) {
            for (int place = 0; place < MOST_ISLANDS && place < inQueue; place++) {
                if (queue[place] == island) {
                    return place;
                }
            }
            return NONE;
        }

        private int risingLoad() {
            int sum = 0;
            for (int island = 0; island < MOST_ISLANDS; island++) {
                if (states[island] == RISING) {
                    sum += loads[island];
                }
            }
            return sum;
        }

        private int noiseSoFar() {
            int sum = 0;
            for (int island = 0; island < MOST_ISLANDS; island++) {
                sum += noise[island];
            }
            return sum;
        }

        private int sumOfValues() {
            int sum = 0;
            for (int island = 0; island < MOST_ISLANDS; island++) {
                sum += values[island];
            }
            return sum;
        }

        private boolean areAllAwake() {
            return Integer.bitCount(islandsThatAre(AWAKE)) == islands;
        }

        /**
         * Whether no tick can wake anyone any more. It holds only behind a tick, or when all sleepers were ordered to
         * wake: else ASKING may still order one.
         */
        private boolean isAtRest() {
            for (int island = 0; island < MOST_ISLANDS; island++) {
                if (states[island] == FALLING || states[island] == WAITING || states[island] == RISING) {
                    return false;
                }
            }
            return true;
        }

        // -- orders

        private void orderToWake(int island) {
            if (isPlace(island) && isPlace(inQueue)) {
                states[island] = WAITING;
                queue[inQueue] = island;
                inQueue++;
            }
        }

        private void orderSleepersToWake() {
            for (int island = 0; island < MOST_ISLANDS; island++) {
                if (states[island] == ASLEEP) {
                    orderToWake(island);
                }
            }
        }

        // -- a tick and its steps

        private void letPass(int many) {
            for (int passed = 0; passed < many; passed++) {
                readOneAnother();
                moveOn();
                ticks++;
                greatestLoad = Math.max(greatestLoad, risingLoad());
            }
        }

        /** All that is told is written down first: the new values go by the old ones. */
        private void readOneAnother() {
            int noisy = 0;
            for (int island = 0; island < MOST_ISLANDS; island++) {
                told[island] = whatTells(island);
                if (!isHeard(island) && !isIn(isolators, island)) {
                    noisy |= 1 << island;
                }
            }
            for (int island = 0; island < MOST_ISLANDS; island++) {
                if (states[island] == AWAKE) {
                    values[island] = values[island] + sumTold(reads[island]) & 255;
                    noise[island] += Integer.bitCount(reads[island] & noisy);
                }
            }
        }

        private int sumTold(int tellers) {
            int sum = 0;
            for (int island = 0; island < MOST_ISLANDS; island++) {
                if (isIn(tellers, island)) {
                    sum += told[island];
                }
            }
            return sum;
        }

        /** The steps of a tick in which islands change their states. */
        private void moveOn() {
            endFalling();
            goOnRising();
            if (asking == 1) {
                askForSleepers();
            }
            beginRising();
        }

        private void endFalling() {
            for (int island = 0; island < MOST_ISLANDS; island++) {
                if (states[island] == FALLING) {
                    states[island] = ASLEEP;
                    keepOrLose(island);
                }
            }
        }

        private void keepOrLose(int island) {
            if (!isPlace(island)) {
                return;
            }
            if (isIn(keepers, island)) {
                kept[island] = values[island];
            } else if (values[island] > 0) {
                lostValues++;
            }
            values[island] = 0;
        }

        private void goOnRising() {
            for (int island = 0; island < MOST_ISLANDS; island++) {
                if (states[island] == RISING) {
                    left[island]--;
                    if (left[island] <= 0) {
                        endRising(island);
                    }
                }
            }
        }

        private void endRising(int island) {
            if (!isPlace(island)) {
                return;
            }
            states[island] = AWAKE;
            if (isIn(keepers, island)) {
                values[island] = kept[island];
            }
        }

        private void askForSleepers() {
            int readByAwake = 0;
            for (int island = 0; island < MOST_ISLANDS; island++) {
                if (states[island] == AWAKE) {
                    readByAwake |= reads[island];
                }
            }
            for (int island = 0; island < MOST_ISLANDS; island++) {
                if (states[island] == ASLEEP && isIn(readByAwake, island)) {
                    orderToWake(island);
                }
            }
        }

        private void beginRising() {
            int load = risingLoad();
            int stillWaiting = 0;
            for (int place = 0; place < MOST_ISLANDS && place < inQueue; place++) {
                int island = queue[place];
                if (!isPlace(island)) {
                    continue;
                }
                // No island has a load of 0: where the load is 0, none is rising.
                if (load == 0 || load + loads[island] <= current) {
                    load += loads[island];
                    states[island] = RISING;
                    left[island] = rises[island];
                } else if (isPlace(stillWaiting)) {
                    queue[stillWaiting] = island;
                    stillWaiting++;
                }
            }
            inQueue = stillWaiting;
        }
    }

    /** The states ahead of the latest changes, the oldest one first. */
    private static final class History {
        private final Chip[] before = new Chip[MOST_UNDOS];
        private int many;

        private History() {
            many = 0;
            for (int at = 0; at < MOST_UNDOS; at++) {
                before[at] = new Chip();
            }
        }

        private void record(Chip chip) {
            if (many >= MOST_UNDOS) {
                dropOldest();
            }
            Chip room = stateAt(many);
            if (room != null) {
                room.copyFrom(chip);
                many++;
            }
        }

        /** The dropped one goes behind the others, as the room for the next one. */
        private void dropOldest() {
            Chip oldest = before[0];
            for (int at = 1; at < MOST_UNDOS; at++) {
                before[at - 1] = before[at];
            }
            before[MOST_UNDOS - 1] = oldest;
            many = MOST_UNDOS - 1;
        }

        private void takeBack(Chip chip) {
            Chip latest = stateAt(many - 1);
            if (latest != null) {
                chip.copyFrom(latest);
                many--;
            }
        }

        private Chip stateAt(int at) {
            return at >= 0 && at < MOST_UNDOS ? before[at] : null;
        }
    }

    private static final class Pad {
        private final char[] signs = new char[MOST_SIGNS];
        private int length;

        private void append(char sign) {
            if (length >= 0 && length < MOST_SIGNS) {
                signs[length] = sign;
                length++;
            }
        }
    }

    /** Reads the text of a pad from left to right, and builds its islands on a chip of its own up to the fault. */
    private static final class ChipReader {
        // What may stand at the next place.
        private static final int ISLAND = 0, KEEPER_OR_RISE = 1, RISE = 2, COMMA = 3, LOAD = 4, MORE_LOAD = 5;
        private static final int NUMBER = 6, MORE_NUMBERS = 7;

        private final Chip chip;
        private int step;
        private boolean isolator;
        private boolean keeper;
        private int rise;
        private int load;
        private int reads;

        private ChipReader() {
            chip = new Chip();
            beginIsland();
        }

        private int findFault(Pad pad) {
            chip.clear();
            beginIsland();
            for (int at = 0; at < MOST_SIGNS && at < pad.length; at++) {
                if (!takes(pad.signs[at])) {
                    return at;
                }
            }
            if (step != MORE_LOAD && step != MORE_NUMBERS) {
                return pad.length;
            }
            endIsland();
            return NONE;
        }

        private void beginIsland() {
            step = ISLAND;
            isolator = false;
            keeper = false;
            rise = 0;
            load = 0;
            reads = 0;
        }

        private void endIsland() {
            chip.addIsland(isolator, keeper, rise, load, reads);
        }

        private boolean takes(char sign) {
            switch (step) {
                case ISLAND: return takesIsolator(sign) || takesKeeper(sign) || takesRise(sign);
                case KEEPER_OR_RISE: return takesKeeper(sign) || takesRise(sign);
                case RISE: return takesRise(sign);
                case COMMA: return takesComma(sign);
                case LOAD: return takesLoad(sign);
                case MORE_LOAD: return takesLoad(sign) || takesArrow(sign) || takesEnd(sign);
                case NUMBER: return takesNumber(sign);
                default: return takesArrow(sign) || takesEnd(sign);
            }
        }

        private boolean takesIsolator(char sign) {
            if (sign != 'i') {
                return false;
            }
            isolator = true;
            step = KEEPER_OR_RISE;
            return true;
        }

        private boolean takesKeeper(char sign) {
            if (sign != 'k') {
                return false;
            }
            keeper = true;
            step = RISE;
            return true;
        }

        private boolean takesRise(char sign) {
            if (sign < '1' || sign > '9') {
                return false;
            }
            rise = sign - '0';
            step = COMMA;
            return true;
        }

        private boolean takesComma(char sign) {
            if (sign != ',') {
                return false;
            }
            step = LOAD;
            return true;
        }

        /** Takes the first digit as well as later ones: a leading zero would leave the load below 1. */
        private boolean takesLoad(char sign) {
            if (sign < '0' || sign > '9') {
                return false;
            }
            int grown = load * 10 + (sign - '0');
            if (!isWithin(grown, 1, MOST_LOAD)) {
                return false;
            }
            load = grown;
            step = MORE_LOAD;
            return true;
        }

        private boolean takesArrow(char sign) {
            if (sign != '>') {
                return false;
            }
            step = NUMBER;
            return true;
        }

        private boolean takesNumber(char sign) {
            int number = sign - '0';
            if (!isWithin(number, 0, MOST_ISLANDS - 1) || number == chip.islands) {
                return false;
            }
            reads |= 1 << number;
            step = MORE_NUMBERS;
            return true;
        }

        private boolean takesEnd(char sign) {
            if (sign != ';' || chip.islands + 1 >= MOST_ISLANDS) {
                return false;
            }
            endIsland();
            beginIsland();
            return true;
        }
    }
}
