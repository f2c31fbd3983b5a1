/** The boundary cases of "Texts" and promises 17 to 19. */
public final class TextsEdgesTest {
    private static final Checks is = new Checks();
    private static final String EIGHT = "1,1;1,1;1,1;1,1;1,1;1,1;1,1;1,1";

    public static void main(String[] args) {
        putOf1To8Characters();
        putOfNoCharacter();
        putOfCodes33To126();
        putOfABadCodeAtEachPlace();
        putOfABitAboveTheEnd();
        putUpTo64();
        putBehindAFullPad();
        putTheLastCharacterLowest();
        wipeOfTheEmptyAndTheFull();
        emptyTextAndEachEndThatIsTooEarly();
        faultOfTheFirstCharacter();
        riseIsADigitFrom1To9();
        loadFrom1To20();
        loadAbove20();
        loadWithLeadingZeros();
        numberFrom0To7();
        numberOfItsOwn();
        numberOfNoIsland();
        upTo8Islands();
        theEndAheadOfANinth();
        isolatorAheadOfKeeper();
        eachCharacterThatCannotStand();
        nothingIsLeftOfAnotherText();
        textsOf64Characters();
        onlyTheFirstFault();
        is.end();
    }

    private static void fault(String text, int due) {
        SleepingIslands x = new SleepingIslands();
        Checks.put(x, text);
        is.due("19: count(12) of " + text, x.count(12), text.length());
        is.due("19: fault() of " + text, x.fault(), due);
        int read = x.read();
        is.due("19: whether " + text + " is refused by read()", read == -3 ? 1 : 0, due == -6 ? 0 : 1);
    }

    private static void putOf1To8Characters() {
        String text = "i1,2>3;k";
        for (int many = 1; many <= 8; many++) {
            SleepingIslands x = new SleepingIslands();
            is.due("17: put of " + many, x.put(Checks.code(text.substring(0, many))), many);
            is.due("17: count(12) of " + many, x.count(12), many);
            is.due("17: put of " + many + " more", x.put(Checks.code(text.substring(0, many))), 2 * many);
        }
    }

    private static void putOfNoCharacter() {
        SleepingIslands x = new SleepingIslands();
        is.due("17: put(0) into the empty pad", x.put(0), -2);
        x.put('1');
        is.due("17: put(0) behind a character", x.put(0), -2);
        is.due("17: count(12)", x.count(12), 1);
    }

    private static void putOfCodes33To126() {
        for (long code = 0; code < 256; code++) {
            SleepingIslands x = new SleepingIslands();
            is.due("17: put(" + code + ")", x.put(code), code >= 33 && code <= 126 ? 1 : -2);
        }
    }

    private static void putOfABadCodeAtEachPlace() {
        long eight = Checks.code("11111111");
        int[] bad = {32, 127, 1, 128, 255};
        int[] good = {33, 126};
        for (int place = 0; place < 8; place++) {
            long others = eight & ~(255L << 8 * place);
            for (int b : bad) {
                SleepingIslands x = new SleepingIslands();
                is.due("17: put with " + b + " at place " + place, x.put(others | (long) b << 8 * place), -2);
                is.due("17: count(12)", x.count(12), 0);
            }
            for (int g : good) {
                SleepingIslands x = new SleepingIslands();
                is.due("17: put with " + g + " at place " + place, x.put(others | (long) g << 8 * place), 8);
            }
        }
    }

    private static void putOfABitAboveTheEnd() {
        for (int many = 0; many < 8; many++) {
            long text = many == 0 ? 0 : Checks.code("1111111".substring(0, many));
            for (int bit = 8 * many + 8; bit < 64; bit++) {
                SleepingIslands x = new SleepingIslands();
                is.due("17: put of " + many + " and the bit " + bit, x.put(text | 1L << bit), -2);
            }
            SleepingIslands x = new SleepingIslands();
            is.due("17: put of " + many + " alone", x.put(text), many == 0 ? -2 : many);
        }
    }

    private static void putUpTo64() {
        for (int many = 1; many <= 8; many++) {
            long text = Checks.code("11111111".substring(0, many));
            for (int length = 64 - many - 1; length <= 64; length++) {
                SleepingIslands x = new SleepingIslands();
                Checks.put(x, "1".repeat(length));
                boolean fits = length + many <= 64;
                is.due("17: put of " + many + " behind " + length, x.put(text), fits ? length + many : -4);
                is.due("17: count(12)", x.count(12), fits ? length + many : length);
            }
        }
    }

    private static void putBehindAFullPad() {
        SleepingIslands x = new SleepingIslands();
        Checks.put(x, "1".repeat(64));
        is.due("17: put of one more", x.put('1'), -4);
        is.due("17: put of a bad one more", x.put(127), -2);
        is.due("17: put of none more", x.put(0), -2);
        is.due("17: wipe()", x.wipe(), 64);
        is.due("17: put into the pad that was full", x.put('1'), 1);
    }

    private static void putTheLastCharacterLowest() {
        SleepingIslands x = new SleepingIslands();
        x.put('9' << 16 | ',' << 8 | '2');
        x.put('0');
        is.due("17: read()", x.read(), 1);
        is.due("17: of(0, 5)", x.of(0, 5), 9);
        is.due("17: of(0, 6)", x.of(0, 6), 20);
    }

    private static void wipeOfTheEmptyAndTheFull() {
        SleepingIslands x = new SleepingIslands();
        is.due("18: wipe() of the empty pad", x.wipe(), 0);
        x.put('1');
        is.due("18: wipe() of one", x.wipe(), 1);
        Checks.put(x, "x".repeat(64));
        is.due("18: wipe() of 64", x.wipe(), 64);
        is.due("18: wipe() again", x.wipe(), 0);
        is.due("18: count(12)", x.count(12), 0);
        is.due("18: fault(): nothing is left", x.fault(), 0);
        is.due("18: undo(): it is no change", x.undo(), -5);
    }

    private static void emptyTextAndEachEndThatIsTooEarly() {
        String whole = "ik9,20>1>2;1,1";
        int[] due = {0, 1, 2, 3, 4, -6, -6, 7, -6, 9, -6, 11, 12, 13, -6};
        for (int length = 0; length <= whole.length(); length++) {
            fault(whole.substring(0, length), due[length]);
        }
        fault("k", 1);
        fault("i9", 2);
        fault("1,1;i", 5);
        fault("1,1;k", 5);
        fault("1,1;ik", 6);
        fault("1,1;1", 5);
        fault("1,1;1,", 6);
        fault("1,1;1,1>", 8);
    }

    private static void faultOfTheFirstCharacter() {
        for (char first = 33; first <= 126; first++) {
            boolean stands = first == 'i' || first == 'k' || first >= '1' && first <= '9';
            fault(String.valueOf(first), stands ? 1 : 0);
        }
    }

    private static void riseIsADigitFrom1To9() {
        String[] ahead = {"", "i", "k", "ik", "1,1;", "1,1;ik"};
        for (String a : ahead) {
            for (int rise = 1; rise <= 9; rise++) {
                fault(a + rise + ",1", -6);
            }
            fault(a + "0,1", a.length());
            fault(a + "/,1", a.length());
            fault(a + ":,1", a.length());
            fault(a + "10,1", a.length() + 1);
            fault(a + "11,1", a.length() + 1);
        }
    }

    private static void loadFrom1To20() {
        for (int load = 1; load <= 20; load++) {
            SleepingIslands x = Checks.chip("1," + load + ";1,1;2," + load);
            is.due("19: of(0, 6)", x.of(0, 6), load);
            is.due("19: of(2, 6)", x.of(2, 6), load);
        }
    }

    private static void loadAbove20() {
        for (int load = 21; load <= 99; load++) {
            fault("1," + load, 3);
            fault("1,1;1," + load, 7);
        }
        for (int load = 10; load <= 20; load++) {
            for (char digit = '0'; digit <= '9'; digit++) {
                fault("1," + load + digit, 4);
            }
        }
        fault("1,21>1", 3);
        fault("1,20>1", -6);
    }

    private static void loadWithLeadingZeros() {
        fault("1,0", 2);
        fault("1,01", 2);
        fault("1,00", 2);
        fault("1,020", 2);
        fault("1,10", -6);
        fault("1,1;1,0", 6);
        fault("1,1;1,05", 6);
        fault("1,20;1,20", -6);
    }

    private static void numberFrom0To7() {
        for (char number = 33; number <= 126; number++) {
            boolean stands = number >= '0' && number <= '7';
            fault("1,1>" + number, stands && number != '0' ? -6 : 4);
            fault("1,1;1,1>" + number, stands && number != '1' ? -6 : 8);
            fault("1,1>1>" + number, stands && number != '0' ? -6 : 6);
        }
        fault("1,1>10", 5);
        fault("1,1>77", 5);
    }

    private static void numberOfItsOwn() {
        for (int own = 0; own < 8; own++) {
            String ahead = EIGHT.substring(0, 4 * own);
            for (int number = 0; number < 8; number++) {
                fault(ahead + "1,1>" + number, number == own ? ahead.length() + 4 : -6);
            }
            fault(ahead + "1,1>" + (own + 1) % 8 + ">" + own, ahead.length() + 6);
        }
    }

    private static void numberOfNoIsland() {
        SleepingIslands x = new SleepingIslands();
        Checks.put(x, "1,1>7");
        is.due("19: fault() of a number that is not there", x.fault(), -6);
        is.due("19: read() of it", x.read(), -1);
        Checks.put(x, ";1,1>7");
        is.due("19: fault() then", x.fault(), -6);
        is.due("19: read() then", x.read(), -1);
        is.due("19: count(12)", x.count(12), 11);
    }

    private static void upTo8Islands() {
        for (int islands = 1; islands <= 8; islands++) {
            SleepingIslands x = new SleepingIslands();
            Checks.put(x, EIGHT.substring(0, 4 * islands - 1));
            is.due("19: fault() of " + islands, x.fault(), -6);
            is.due("19: read() of " + islands, x.read(), islands);
        }
    }

    private static void theEndAheadOfANinth() {
        fault(EIGHT.substring(0, 4 * 7), 28);
        fault(EIGHT + ";", 31);
        fault(EIGHT + ";1,1", 31);
        fault(EIGHT + ">0;", 33);
        fault(EIGHT + "0;", 32);
        fault("1,1;1,1;1,1;1,1;1,1;1,1;1,1;ik9,20>6>5;k1,1", 38);
    }

    private static void isolatorAheadOfKeeper() {
        fault("i1,1", -6);
        fault("k1,1", -6);
        fault("ik1,1", -6);
        fault("ki1,1", 1);
        fault("ii1,1", 1);
        fault("kk1,1", 1);
        fault("iki1,1", 2);
        fault("ikk1,1", 2);
        fault("1i,1", 1);
        fault("1,i1", 2);
        fault("1,1i", 3);
        fault("I1,1", 0);
        fault("K1,1", 0);
    }

    /** Behind each beginning these characters can stand, and no others. */
    private static void eachCharacterThatCannotStand() {
        String[] beginnings = {"i", "k", "ik", "1", "1,", "1,1", "1,2", "1,3", "1,10", "1,20", "1,1>", "1,1>1", "1,1;", "1,1;i", "1,1;2"};
        String[] stand = {"k123456789", "123456789", "123456789", ",", "123456789", "0123456789>;", "0>;", ">;", ">;", ">;", "1234567",
            ">;", "ik123456789", "k123456789", ","};
        for (int at = 0; at < beginnings.length; at++) {
            int length = beginnings[at].length();
            for (char next = 33; next <= 126; next++) {
                SleepingIslands x = new SleepingIslands();
                Checks.put(x, beginnings[at] + next);
                boolean refused = x.fault() == length;
                is.due("19: " + beginnings[at] + " and " + next, refused ? 1 : 0, stand[at].indexOf(next) < 0 ? 1 : 0);
            }
        }
    }

    private static void nothingIsLeftOfAnotherText() {
        SleepingIslands x = new SleepingIslands();
        Checks.put(x, "ik9,20>1>2;ik9,20>0>2;ik9,20>0>1;ik8,19>");
        is.due("19: fault()", x.fault(), 40);
        x.wipe();
        Checks.put(x, "1,2;1,2;1,2;1,2");
        is.due("19: read()", x.read(), 4);
        int[] due = {0, 0, 0, 0, 0, 1, 2, 0, 0, 0, 0, -6, 0};
        for (int island = 0; island < 4; island++) {
            for (int what = 0; what < 13; what++) {
                is.due("19: of(" + island + ", " + what + ")", x.of(island, what), due[what]);
            }
        }
    }

    private static void textsOf64Characters() {
        String full = "ik9,20>1;ik9,20>2;ik9,20>3;ik9,20>4;ik9,20>5;ik9,20>6;ik9,20;1,1";
        fault(full, -6);
        fault(full.substring(0, 63), 63);
        fault(full.substring(0, 63) + "0", 63);
        fault(full.substring(0, 62) + "x1", 62);
        fault("1,1" + ">1".repeat(30) + ">", 64);
        fault("1,1" + ">1".repeat(30) + ";", 64);
        fault("1,10" + ">1".repeat(30), -6);
        fault("x" + "1".repeat(63), 0);
    }

    private static void onlyTheFirstFault() {
        fault("1,21>0;x", 3);
        fault("0,0", 0);
        fault("1,1>8>9", 4);
        fault("x,", 0);
    }
}
