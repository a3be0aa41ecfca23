/** Boundary cases of THE TEXT and its FAULT: terms 1, promises 2 to 4. */
final class TextBounds {
    private static final int OUTSIDE = -2, STATE = -3, FULL = -4, NONE = -9;
    private static final int MOST = 56;
    private static final String SIX_THINGS = "T013-T013-T013-T013-T013-T013-";
    private static final String FULLEST = "W05H00H00H00H00" + SIX_THINGS + "I01I12I23D0";

    private final Sentences due;

    TextBounds(Sentences due) {
        this.due = due;
    }

    void all() {
        lettersAtMost();
        wind();
        law();
        last();
        partsNoneOrMore();
        housesAtMost();
        thingsAtMost();
        placesToLast();
        breaths();
        pace();
        worth();
        owner();
        lyingToldAhead();
        lyingUnlike();
        lyingAtOnePlace();
        lyingInNothingSoFar();
        lyingNotInOneAnother();
        lyingDeep();
        debts();
        faultWhateverCameBehind();
        faultWithItsLengthSetAside();
        faultAtItsEnd();
        faultNone();
        write();
        wipe();
        fault();
    }

    private static SaidMine written(String text) {
        SaidMine x = new SaidMine();
        Check.write(x, text);
        return x;
    }

    private void fault(String text, int want) {
        due.due("fault of " + text, written(text).fault(), want);
    }

    /** Which of all letters can come behind a start; with them the text is a coast, or is only not at its end. */
    private void takes(String start, String letters, boolean whole) {
        for (int letter = 0; letter <= 255; letter++) {
            int want = letters.indexOf(letter) < 0 ? start.length() : whole ? NONE : start.length() + 1;
            fault(start + (char) letter, want);
        }
    }

    private void lettersAtMost() {
        due.of("Term 1", "THE TEXT is letters (56 at most)");
        SaidMine x = new SaidMine();
        due.due("count(0) of none", x.count(0), 0);
        for (int i = 0; i < MOST; i++) {
            due.due("write", x.write(FULLEST.charAt(i)), i + 1);
        }
        due.due("one more", x.write('D'), FULL);
        due.due("count(0)", x.count(0), MOST);
        due.due("fault", x.fault(), NONE);
        due.due("coast of 56", x.coast(), 46);
    }

    private void wind() {
        due.of("Term 1", "A COAST is a TEXT: W, LAW");
        takes("", "W", false);
    }

    private void law() {
        due.of("Term 1", "LAW (0 to 3)");
        takes("W", "0123", false);
        for (int law = 0; law <= 3; law++) {
            due.due("law " + law, Check.coast("W" + law + "1").count(1), law);
        }
    }

    private void last() {
        due.of("Term 1", "LAST (1 to 5)");
        takes("W0", "12345", true);
        for (int last = 1; last <= 5; last++) {
            due.due("last " + last, Check.coast("W0" + last).count(2), last);
        }
    }

    private void partsNoneOrMore() {
        due.of("Term 1", "then PARTS, none or more");
        takes("W01", "HT", false);
        takes("W01H00", "HTD", false);
        takes("W01T015-", "HT", false);
        takes("W01T015-T015-", "HTI", false);
        due.due("coast without parts", Check.coast("W01").count(0), 3);
    }

    private void housesAtMost() {
        due.of("Term 1", "HOUSES (4 at most)");
        takes("W01H00H00H00", "HTD", false);
        takes("W01H00H00H00H00", "TD", false);
        fault("W01H00H00H00H00H00", 15);
        due.due("four houses", Check.coast("W01H00H00H00H00").coast(), 40);
    }

    private void thingsAtMost() {
        due.of("Term 1", "THINGS (6 at most)");
        takes("W01T013-T013-T013-T013-T013-", "HTI", false);
        takes("W01" + SIX_THINGS, "HI", false);
        fault("W01" + SIX_THINGS + "T013-", 33);
        due.due("six things", Check.coast("W01" + SIX_THINGS).coast(), 6);
    }

    private void placesToLast() {
        due.of("Term 1", "PLACES are 0 to LAST (THE QUAY)");
        for (int last = 1; last <= 5; last++) {
            String places = "012345".substring(0, last + 1);
            takes("W0" + last + "H", places, false);
            takes("W0" + last + "T", places, false);
            SaidMine x = Check.coast("W0" + last + "H" + last + "0H00T" + last + "15-T015-");
            due.due("a house at the last of " + last, x.house(0, 0), last);
            due.due("a house at 0", x.house(1, 0), 0);
            due.due("a thing at the last of " + last, x.thing(0, 0), last);
            due.due("a thing at 0", x.thing(1, 0), 0);
            due.due("on the quay", x.count(7), 1);
        }
    }

    private void breaths() {
        due.of("Term 1", "with b BREATHS (0 to 4)");
        takes("W01H0", "01234", true);
        for (int b = 0; b <= 4; b++) {
            due.due("breaths", Check.coast("W01H0" + b).house(0, 1), b);
        }
    }

    private void pace() {
        due.of("Term 1", "that goes m PLACES by a BLOW (1 to 3)");
        takes("W01T0", "123", false);
        for (int m = 1; m <= 3; m++) {
            due.due("goes", Check.coast("W01T0" + m + "5-").thing(0, 1), m);
        }
    }

    private void worth() {
        due.of("Term 1", "of WORTH v (0 to 9)");
        takes("W01T01", "0123456789", false);
        for (int v = 0; v <= 9; v++) {
            due.due("worth", Check.coast("W01T01" + v + "-").thing(0, 2), v);
        }
    }

    private void owner() {
        due.of("Term 1", "of HOUSE o (told ahead; or -: nobody's)");
        takes("W01T015", "-", true);
        takes("W01H00T015", "-0", true);
        takes("W01H00H00H00H00T015", "-0123", true);
        fault("W01T0150H00", 7);
        fault("W01H00T0151H00", 10);
        due.due("nobody's", Check.coast("W01H00T015-").thing(0, 3), NONE);
        due.due("of the first", Check.coast("W01H00T0150").thing(0, 3), 0);
        due.due("of the last", Check.coast("W01H00H00H00H00T0153").thing(0, 3), 3);
    }

    private void lyingToldAhead() {
        due.of("Term 1", "THING i lies in THING j (both told ahead");
        takes("W01", "HT", false);
        takes("W01T015-", "HT", false);
        takes("W01T015-T015-I", "01", false);
        takes("W01T015-T015-I0", "1", true);
        fault("W01T015-T015-I02T015-", 15);
        fault("W01T015-T015-I20T015-", 14);
        takes("W01" + SIX_THINGS + "I", "012345", false);
        takes("W01" + SIX_THINGS + "I0", "12345", true);
    }

    private void lyingUnlike() {
        due.of("Term 1", "both told ahead, unlike");
        for (int i = 0; i < 6; i++) {
            takes("W01" + SIX_THINGS + "I" + i, "012345".replace("" + i, ""), true);
        }
    }

    private void lyingAtOnePlace() {
        due.of("Term 1", "unlike, at one PLACE");
        takes("W05T015-T115-", "HT", false);
        takes("W05T015-T115-T015-", "HTI", false);
        takes("W05T015-T115-T015-I", "02", false);
        takes("W05T015-T115-T015-I2", "0", true);
        takes("W05T515-T415-T515-T415-I3", "1", true);
    }

    private void lyingInNothingSoFar() {
        due.of("Term 1", "i lies in nothing so far");
        takes("W01T015-T015-T015-I02I", "12", false);
        fault("W01T015-T015-T015-I02I01", 22);
        due.due("in what it lies", Check.coast("W01T015-T015-T015-I02I10").thing(1, 4), 0);
    }

    private void lyingNotInOneAnother() {
        due.of("Term 1", "j not in i, nor in what lies in i, ..)");
        takes("W01T015-T015-I01", "HT", false);
        takes("W01T015-T015-T015-I01I", "12", false);
        takes("W01T015-T015-T015-I01I1", "2", true);
        takes("W01T015-T015-T015-I01I2", "01", true);
        takes("W01T015-T015-T015-T015-I01I12I23", "HT", false);
        takes("W01T015-T015-T015-T015-I01I12I", "23", false);
        takes("W01T015-T015-T015-T015-I01I12I2", "3", true);
    }

    private void lyingDeep() {
        due.of("Term 1", "nor in what lies in i, ..)");
        String chain = "W01" + SIX_THINGS + "I01I12I23I34";
        takes(chain + "I", "45", false);
        takes(chain + "I4", "5", true);
        takes(chain + "I5", "01234", true);
        takes(chain + "I45", "H", false);
        takes(chain + "I50", "H", false);
    }

    private void debts() {
        due.of("Term 1", "HOUSE i (told ahead) OWES (each once at most)");
        takes("W01H00D", "0", true);
        takes("W01H00D0", "HT", false);
        takes("W01H00H00H00H00D", "0123", true);
        takes("W01H00H00H00H00D3D1D", "02", true);
        takes("W01H00H00H00H00D3D1D0D", "2", true);
        takes("W01H00H00H00H00D3D1D0D2", "T", false);
        takes("W01H00D0H00D", "1", true);
        fault("W01D0H00", 3);
        fault("W01H00D1H00", 7);
        due.due("all owe", Check.coast("W01H00H00H00H00D3D1D0D2").count(9), 15);
    }

    private void faultWhateverCameBehind() {
        due.of("Term 1", "the first letter by which THE TEXT can be no COAST, whatever came behind it");
        fault("X", 0);
        fault("XW01", 0);
        fault("W4", 1);
        fault("W41H00", 1);
        fault("W06H9", 2);
        fault("W01T015-I01T015-", 8);
        fault("W01D0", 3);
        StringBuilder long55 = new StringBuilder("W01H02Q");
        while (long55.length() < MOST) {
            long55.append('W');
        }
        fault(long55.toString(), 6);
        for (int at = 0; at < MOST; at++) {
            fault(FULLEST.substring(0, at) + "?" + FULLEST.substring(at + 1), at);
        }
    }

    private void faultWithItsLengthSetAside() {
        due.of("Term 1", "whatever came behind it (its length set aside)");
        String without = FULLEST.substring(0, 54);
        fault(without + "I", 55);
        fault(without + "I3", 56);
        fault(without + "D", 55);
        String five = FULLEST.substring(0, 40) + "D0D1D2I01I12I23";
        fault(five, NONE);
        fault(five + "T", 56);
        due.due("coast of it", written(five + "T").coast(), STATE);
    }

    private void faultAtItsEnd() {
        due.of("Term 1", "its length, if it is only not at its end");
        String ends = "3,6,9,12,15,20,25,30,35,40,45,48,51,54,56,";
        for (int n = 0; n <= MOST; n++) {
            fault(FULLEST.substring(0, n), ends.contains("," + n + ",") || n == 3 ? NONE : n);
        }
    }

    private void faultNone() {
        due.of("Term 1", "NONE: none. At first");
        fault("W01", NONE);
        fault(FULLEST, NONE);
        due.due("NONE", SaidMine.NONE, -9);
    }

    private void write() {
        due.of("Promise 2", "A letter (0 to 255) comes behind THE TEXT: how long it is. OUTSIDE; FULL: there are 56.");
        SaidMine x = new SaidMine();
        due.due("write(-1)", x.write(-1), OUTSIDE);
        due.due("write(256)", x.write(256), OUTSIDE);
        due.due("write(MIN)", x.write(Integer.MIN_VALUE), OUTSIDE);
        due.due("write(MAX)", x.write(Integer.MAX_VALUE), OUTSIDE);
        due.due("write(87 + 256)", x.write('W' + 256), OUTSIDE);
        due.due("nothing is written", x.count(0), 0);
        for (int i = 1; i <= MOST; i++) {
            due.due("write", x.write(i % 2 == 0 ? 0 : 255), i);
        }
        due.due("write(0) when full", x.write(0), FULL);
        due.due("write(255) when full", x.write(255), FULL);
        due.due("write(-1) when full", x.write(-1), OUTSIDE);
        due.due("write(256) when full", x.write(256), OUTSIDE);
        due.due("still 56", x.count(0), MOST);
    }

    private void wipe() {
        due.of("Promise 3", "THE TEXT is empty: how long it was.");
        SaidMine x = new SaidMine();
        due.due("wipe of none", x.wipe(), 0);
        x.write('W');
        due.due("wipe of one", x.wipe(), 1);
        Check.write(x, FULLEST);
        due.due("wipe of 56", x.wipe(), MOST);
        due.due("wipe again", x.wipe(), 0);
        due.due("fault when wiped", x.fault(), 0);
        due.due("write when wiped", x.write('W'), 1);
        due.due("what was wiped is not behind it", x.fault(), 1);
    }

    private void fault() {
        due.of("Promise 4", "FAULT; NONE.");
        SaidMine x = new SaidMine();
        due.due("of no text", x.fault(), 0);
        Check.write(x, "W01");
        due.due("of a coast", x.fault(), NONE);
        due.due("once more", x.fault(), NONE);
        due.due("no coast by it", x.count(2) + x.house(0, 0), 0);
        Check.write(x, FULLEST.substring(0, 55) + "1");
        due.due("of another coast", x.fault(), NONE);
        Check.write(x, FULLEST.substring(0, 55) + "4");
        due.due("at the last letter", x.fault(), 55);
        due.due("the text stays", x.count(0), MOST);
    }
}
