import java.math.BigInteger;

/** Boundary cases of what is SEEN, HEARD, FORGOTTEN, of WINDS and SLOTS: terms 3, promises 26 to 33. */
final class SeenBounds {
    private static final int UNKNOWN = -1, OUTSIDE = -2, STATE = -3, FULL = -4, NONE = -9;
    private static final int MIN = Integer.MIN_VALUE, MAX = Integer.MAX_VALUE;
    private static final String SIX_THINGS = "T013-T013-T013-T013-T013-T013-";
    private static final BigInteger TIMES = new BigInteger("6364136223846793005");
    private static final BigInteger MORE = new BigInteger("1442695040888963407");
    private static final BigInteger WHOLE = BigInteger.TWO.pow(64);

    private final Sentences due;

    SeenBounds(Sentences due) {
        this.due = due;
    }

    void all() {
        seeSixAtMost();
        seeRefused();
        unsee();
        notAnyMore();
        heardRefused();
        heardNoMoreThanItsBreaths();
        heardNearOnes();
        heardInPlaceOfWhatItSaid();
        heardBehindLeastAndMost();
        heardNone();
        heardOfNothing();
        forgottenRefused();
        forgottenLeastAndMost();
        forgottenOfNone();
        forgottenStoneToo();
        forgottenEachByItself();
        seed();
        seedAtFirst();
        windsRefused();
        windsWrapping();
        windsUpperBits();
        windsEachFigure();
        windsLeastAndMost();
        windsChangeNothing();
        slots();
        keepUnknown();
        againRefused();
        againRowIsEmpty();
        againKeeps();
    }

    // ---- seen

    private void seeSixAtMost() {
        due.of("Term 3", "SEEN: that a THING is at LAST, or is not: 6 such at most, none at first");
        SaidMine x = Check.coast("W01T013-");
        due.due("none at first", x.count(12), 0);
        for (int i = 1; i <= 6; i++) {
            due.due("see", x.see(0, i % 2 == 0), i);
            due.due("seen", x.count(12), i);
        }
        due.due("a seventh", x.see(0, true), FULL);
        due.due("seen", x.count(12), 6);
    }

    private void seeRefused() {
        due.of("Promise 26", "SEEN: how many there are. UNKNOWN; FULL: 6.");
        SaidMine x = Check.coast("W01H00H00H00T013-T013-");
        int[] none = {MIN, -9, -1, 2, 3, 6, MAX};
        for (int thing : none) {
            due.due("see(" + thing + ")", x.see(thing, true), UNKNOWN);
        }
        for (int i = 1; i <= 6; i++) {
            due.due("see(1)", x.see(1, true), i);
        }
        due.due("full", x.see(1, true), FULL);
        for (int thing : none) {
            due.due("no thing " + thing + " ahead of full", x.see(thing, false), UNKNOWN);
        }
    }

    private void unsee() {
        due.of("Promise 27", "Nothing is SEEN: how many there were.");
        SaidMine x = Check.coast("W01T013-");
        for (int many = 0; many <= 6; many++) {
            for (int i = 0; i < many; i++) {
                x.see(0, true);
            }
            due.due("unsee", x.unsee(), many);
            due.due("seen", x.count(12), 0);
        }
        due.due("room again", x.see(0, false), 1);
    }

    private void notAnyMore() {
        due.of("Term 3", "(of THINGS that there are not any more nothing is looked at)");
        SaidMine x = Check.coast("W01H01T013-T013-");
        x.see(1, false);
        due.due("said to it", x.heard(0, 1, 1), 2);
        Check.write(x, "W01H01T013-");
        x.coast();
        due.due("it is seen still", x.count(12), 1);
        due.due("there is no such thing", x.heard(0, 1, 0), 2);
        x.see(0, false);
        due.due("of what there is it is looked at", x.heard(0, 1, 1), 1);
        Check.write(x, "W01H02T013-T013-");
        x.coast();
        due.due("there is one again", x.heard(0, 1, 1), 3);
    }

    // ---- heard

    private void heardRefused() {
        due.of("Promise 28", "HEARD: how many sets (what = 0), what is in all (1), in none (2), as bits; NONE (of 1, 2): there is none. "
            + "UNKNOWN; OUTSIDE: n, what.");
        SaidMine x = Check.coast("W05H01H01T013-T013-T013-");
        int[] noHouses = {MIN, -9, -1, 2, 3, MAX}, noNumbers = {MIN, -9, -1, 10, 11, MAX}, noWhats = {MIN, -9, -1, 3, 4, MAX};
        for (int house : noHouses) {
            due.due("heard(" + house + ", 0, 0)", x.heard(house, 0, 0), UNKNOWN);
            due.due("heard(" + house + ", 10, 3)", x.heard(house, 10, 3), UNKNOWN);
        }
        for (int n : noNumbers) {
            due.due("heard(1, " + n + ", 0)", x.heard(1, n, 0), OUTSIDE);
        }
        for (int what : noWhats) {
            due.due("heard(0, 0, " + what + ")", x.heard(0, 0, what), OUTSIDE);
        }
        x.see(0, true);
        due.due("no set, no what", x.heard(0, 0, 3), OUTSIDE);
        due.due("no set, no n", x.heard(0, 10, 1), OUTSIDE);
    }

    private void heardNoMoreThanItsBreaths() {
        due.of("Term 3", "sets of THINGS that it may have SAID (no more than its BREATHS");
        int[] sets = {1, 7, 22, 42, 57};
        for (int breaths = 0; breaths <= 4; breaths++) {
            SaidMine x = Check.coast("W01H0" + breaths + SIX_THINGS);
            due.due("sets by " + breaths, x.heard(0, 0, 0), sets[breaths]);
            due.due("in all", x.heard(0, 0, 1), 0);
            due.due("in none", x.heard(0, 0, 2), breaths == 0 ? 63 : 0);
            for (int thing = 0; thing < breaths; thing++) {
                x.see(thing, false);
            }
            due.due("just so many as it has", x.heard(0, 1, 1), (1 << breaths) - 1);
            x.see(5, false);
            due.due("one more than it has", x.heard(0, 1, 0), 0);
        }
    }

    private void heardNearOnes() {
        due.of("Term 3", "near ones; in place of what it did SAY; all else as it is)");
        SaidMine x = Check.coast("W05H24T013-T113-T213-T313-T413-");
        due.due("sets of three", x.heard(0, 0, 0), 8);
        due.due("in none", x.heard(0, 0, 2), 17);
        due.due("none near", Check.coast("W05H54T013-").heard(0, 0, 0), 1);
        x = Check.coast("W05H01T013-D0");
        x.see(0, true);
        due.due("one that owes: said or not", x.heard(0, 5, 0), 2);
        x.stone(0);
        due.due("a stone lies", x.heard(0, 9, 0), 0);
    }

    private void heardInPlaceOfWhatItSaid() {
        due.of("Term 3", "in place of what it did SAY; all else as it is), so that behind n BLOWS all that is SEEN is so");
        SaidMine x = Check.coast("W01H02H01T013-T013-T013-");
        x.say(0, 0);
        x.say(0, 1);
        due.due("all its breaths are gone", x.heard(0, 0, 0), 7);
        x.see(0, true);
        due.due("it did not say it to 0", x.heard(0, 1, 0), 4);
        due.due("of the other house, what this one said stays", x.heard(1, 1, 0), 0);
        x.unsee();
        x.see(2, false);
        due.due("it said it to 2", x.heard(0, 1, 1), 4);
        x.say(1, 2);
        due.due("the other one did", x.heard(0, 1, 0), 7);
        due.due("what was said is as it was", x.house(0, 2), 3);
    }

    private void heardBehindLeastAndMost() {
        due.of("Term 3", "HEARD of a HOUSE and n BLOWS");
        SaidMine x = Check.coast("W05H01T013-");
        x.see(0, true);
        for (int n = 0; n <= 9; n++) {
            due.due("sets behind " + n, x.heard(0, n, 0), n < 5 ? 0 : 1);
            due.due("in none behind " + n, x.heard(0, n, 2), n < 5 ? NONE : 1);
        }
        x = Check.coast("W05H51T513-");
        x.see(0, true);
        due.due("there now", x.heard(0, 0, 0), 2);
    }

    private void heardNone() {
        due.of("Promise 28", "NONE (of 1, 2): there is none.");
        SaidMine x = Check.coast("W01H01T013-");
        x.see(0, true);
        x.see(0, false);
        due.due("how many", x.heard(0, 1, 0), 0);
        due.due("in all", x.heard(0, 1, 1), NONE);
        due.due("in none", x.heard(0, 1, 2), NONE);
    }

    private void heardOfNothing() {
        due.of("Term 3", "how many; what is in all (bits); in none.");
        SaidMine x = Check.coast("W01H04");
        due.due("sets of no things", x.heard(0, 0, 0), 1);
        due.due("in all", x.heard(0, 0, 1), 0);
        due.due("in none", x.heard(0, 0, 2), 0);
        x = Check.coast("W01H04T013-T013-T013-T013-T013-T013-");
        x.see(0, false);
        x.see(1, false);
        x.see(2, false);
        x.see(3, false);
        due.due("just one set", x.heard(0, 1, 0), 1);
        due.due("in all", x.heard(0, 1, 1), 15);
        due.due("in none", x.heard(0, 1, 2), 48);
    }

    // ---- forgotten

    private void chance(String what, SaidMine x, int thing, int tenths, int above, int below) {
        due.due(what + ", above, thing " + thing + " by " + tenths, x.forgotten(thing, tenths, true), above);
        due.due(what + ", below, thing " + thing + " by " + tenths, x.forgotten(thing, tenths, false), below);
    }

    private void forgottenRefused() {
        due.of("Promise 29", "FORGOTTEN. UNKNOWN; OUTSIDE: x.");
        SaidMine x = Check.coast("W01H01H01H01T013-T013-");
        int[] noThings = {MIN, -9, -1, 2, 3, 6, MAX}, noTenths = {MIN, -9, -1, 11, 12, 100, MAX};
        for (int thing : noThings) {
            due.due("forgotten(" + thing + ", 0, true)", x.forgotten(thing, 0, true), UNKNOWN);
            due.due("forgotten(" + thing + ", 0, false)", x.forgotten(thing, 0, false), UNKNOWN);
            due.due("forgotten(" + thing + ", 11, true)", x.forgotten(thing, 11, true), UNKNOWN);
        }
        for (int tenths : noTenths) {
            due.due("forgotten(1, " + tenths + ", true)", x.forgotten(1, tenths, true), OUTSIDE);
            due.due("forgotten(1, " + tenths + ", false)", x.forgotten(1, tenths, false), OUTSIDE);
        }
    }

    private void forgottenLeastAndMost() {
        due.of("Term 3", "each that was SAID is not COUNTED by x tenths (0 to 10)");
        int[] certain = {1, 0, 1, 1}, gone = {0, 0, 0, 0};
        for (int law = 0; law <= 3; law++) {
            SaidMine x = Check.coast("W" + law + "1H01H01H01H01T0132");
            for (int house = 0; house < 4; house++) {
                x.say(house, 0);
            }
            chance("law " + law, x, 0, 0, certain[law], 1);
            chance("law " + law, x, 0, 10, gone[law], 1);
        }
    }

    private void forgottenOfNone() {
        due.of("Term 3", "FORGOTTEN: each that was SAID");
        for (int law = 0; law <= 3; law++) {
            SaidMine x = Check.coast("W" + law + "1H01T0130D0");
            chance("none said", x, 0, 0, 0, 1);
            chance("none said", x, 0, 5, 0, 1);
            chance("none said", x, 0, 10, 0, 1);
            x.say(0, 0);
            chance("said by one that owes", x, 0, 5, 0, 1);
        }
        chance("no house", Check.coast("W01T013-"), 0, 3, 0, 1);
    }

    private void forgottenStoneToo() {
        due.of("Term 3", "the chance that a THING STAYS (a STONE, and that in which it lies, too): a FRACTION.");
        SaidMine x = Check.coast("W01H01T013-T013-T013-I01I12");
        x.say(0, 2);
        for (int thing = 0; thing <= 2; thing++) {
            chance("said to the outermost", x, thing, 4, 3, 5);
        }
        x.stone(0);
        chance("a stone on the innermost", x, 0, 4, 3, 5);
        x.stone(2);
        for (int thing = 0; thing <= 2; thing++) {
            chance("a stone on the outermost", x, thing, 4, 1, 1);
            chance("a stone on the outermost", x, thing, 10, 1, 1);
        }
    }

    private void forgottenEachByItself() {
        due.of("Term 3", "is not COUNTED by x tenths (0 to 10), by itself");
        SaidMine x = Check.coast("W01H01H01H01H01T013-");
        int[][] one = {{0, 1}, {9, 10}, {99, 100}, {999, 1000}, {9999, 10000}};
        for (int said = 0; said <= 4; said++) {
            chance("one or more of " + said, x, 0, 1, one[said][0], one[said][1]);
            x.say(said, 0);
        }
        x = Check.coast("W11H01H01H01H01T013-");
        int[][] just = {{0, 1}, {1, 2}, {1, 2}, {3, 8}, {1, 4}};
        for (int said = 0; said <= 4; said++) {
            chance("just one of " + said, x, 0, 5, just[said][0], just[said][1]);
            x.say(said, 0);
        }
        x = Check.coast("W31H01H01H01H01T013-");
        int[][] two = {{0, 1}, {0, 1}, {1, 100}, {7, 250}, {523, 10000}};
        for (int said = 0; said <= 4; said++) {
            chance("two or more of " + said, x, 0, 9, two[said][0], two[said][1]);
            x.say(said, 0);
        }
    }

    // ---- winds

    private static long stepped(long seed) {
        return BigInteger.valueOf(seed).multiply(TIMES).add(MORE).mod(WHOLE).longValue();
    }

    /** The seed from which one wind makes this one. */
    private static long before(long seed) {
        return BigInteger.valueOf(seed).subtract(MORE).multiply(TIMES.modInverse(WHOLE)).mod(WHOLE).longValue();
    }

    private void seed() {
        due.of("Promise 30", "THE SEED is v: what it was.");
        SaidMine x = new SaidMine();
        long[] seeds = {1, -1, Long.MAX_VALUE, Long.MIN_VALUE, MAX, MIN, 4294967296L, 0};
        long was = 0;
        for (long seed : seeds) {
            due.due("seed(" + seed + ")", x.seed(seed), was);
            was = seed;
        }
    }

    private void seedAtFirst() {
        due.of("Term 3", "(THE SEED, a long; 0 at first)");
        due.due("seed", new SaidMine().seed(5), 0);
        SaidMine x = new SaidMine();
        x.winds(1);
        due.due("the first one from 0", x.seed(0), 1442695040888963407L);
    }

    private void windsRefused() {
        due.of("Promise 31", "WINDS. OUTSIDE: m.");
        SaidMine x = Check.coast("W01T013-");
        x.seed(77);
        int[] none = {MIN, -9, -1, 0, 21, 22, MAX};
        for (int m : none) {
            due.due("winds(" + m + ")", x.winds(m), OUTSIDE);
        }
        due.due("the seed is as it was", x.seed(0), 77);
    }

    private void windsWrapping() {
        due.of("Term 3", "x times 6364136223846793005 and 1442695040888963407 (64 bits, wrapping)");
        long[] seeds = {0, 1, -1, 2, Long.MAX_VALUE, Long.MIN_VALUE, Long.MAX_VALUE - 1, 4294967296L, -4294967296L, before(0), before(-1)};
        for (long seed : seeds) {
            SaidMine x = new SaidMine();
            x.seed(seed);
            x.winds(1);
            due.due("from " + seed, x.seed(0), stepped(seed));
        }
    }

    /** What is left of a thing's worth, when after one wind the seed is this. */
    private long quay(long seed) {
        SaidMine x = Check.coast("W01T011-T012-T013-T014-T015-T016-");
        x.seed(before(seed));
        return x.winds(1);
    }

    private void windsUpperBits() {
        due.of("Term 3", "its upper 31 bits by 8, what is left");
        for (int left = 0; left <= 7; left++) {
            long want = left < 6 ? 20 - left : 21;
            due.due("the least that leaves " + left, quay((long) left << 33), want);
            due.due("all lower bits", quay((long) left << 33 | (1L << 33) - 1), want);
            due.due("the highest bit", quay((1L << 30 | left) << 33), want);
            due.due("all upper bits but the last three", quay((0x7ffffff8L | left) << 33), want);
        }
        due.due("all bits", quay(-1), 21);
        due.due("no bits", quay(0), 20);
    }

    private void windsEachFigure() {
        due.of("Term 3", "0 to 5: a STONE is laid on that THING, or taken from it, if there is such a one; 6, 7: nothing; then a BLOW: "
            + "THE QUAY at last.");
        for (int things = 0; things <= 6; things++) {
            for (int left = 0; left <= 7; left++) {
                SaidMine x = Check.coast("W01" + "T013-".repeat(things));
                x.seed(before((long) left << 33));
                due.due(left + " of " + things + " things", x.winds(1), left < things ? 3 * (things - 1) : 3 * things);
                for (int thing = 0; thing < things; thing++) {
                    x.stone(thing);
                }
                x.seed(before((long) left << 33));
                due.due("taken, " + left + " of " + things, x.winds(1), left < things ? 3 : 0);
            }
        }
    }

    private void windsLeastAndMost() {
        due.of("Term 3", "WINDS by THE SEED: m times (1 to 20)");
        long seed = 31;
        for (int m = 1; m <= 20; m++) {
            seed = stepped(seed);
            SaidMine x = Check.coast("W05");
            x.seed(31);
            due.due("winds(" + m + ")", x.winds(m), 0);
            due.due("the seed behind " + m, x.seed(0), seed);
        }
        for (int m = 1; m <= 6; m++) {
            SaidMine x = Check.coast("W05T013-T013-I01");
            x.seed(sevens(m));
            due.due("so many blows: " + m, x.winds(m), m < 5 ? 0 : 6);
        }
    }

    /** A seed from which so many winds lay no stone on two things. */
    private static long sevens(int m) {
        for (long start = 0; ; start++) {
            long seed = start;
            boolean none = true;
            for (int i = 0; i < m; i++) {
                seed = stepped(seed);
                none &= (seed >>> 33) % 8 > 1;
            }
            if (none) {
                return start;
            }
        }
    }

    private void windsChangeNothing() {
        due.of("Term 3", "(Nothing changes but THE SEED.)");
        SaidMine x = Check.coast("W03H02T013-T023-T013-I20"), y = Check.coast("W03H02T013-T023-T013-I20");
        for (SaidMine z : new SaidMine[] {x, y}) {
            z.stone(0);
            z.keep(1);
            z.blow();
            z.see(0, true);
            z.seed(8);
        }
        for (int i = 0; i < 20; i++) {
            x.winds(20);
        }
        due.isTrue("THE SEED has changed", x.seed(8) != 8);
        due.isTrue("all else is as it was", Remains.of(x).equals(Remains.of(y)));
    }

    // ---- slots

    private void slots() {
        due.of("Term 3", "SLOTS 0 to 1 keep PLACES, what is SAID, STONES, who OWES, THE BLOW");
        SaidMine x = Check.coast("W05H02H01T013-T013-D1");
        for (int slot = 0; slot <= 1; slot++) {
            x.say(0, slot);
            x.stone(1);
            x.blow();
            due.due("keep(" + slot + ")", x.keep(slot), slot + 1);
        }
        x.pay(1);
        x.dawn();
        x.blow();
        x.blow();
        due.due("again(0)", x.again(0), 1);
        due.due("places", 10 * x.thing(0, 0) + x.thing(1, 0), 0);
        due.due("said", x.house(0, 2), 1);
        due.due("stones", 10 * x.thing(0, 6) + x.thing(1, 6), 1);
        due.due("owes", x.count(9), 2);
        due.due("the blow", x.count(5), 1);
        x.blow();
        due.due("again(1)", x.again(1), 2);
        due.due("said", x.house(0, 2), 3);
        due.due("stones", 10 * x.thing(0, 6) + x.thing(1, 6), 0);
        due.due("the blow", x.count(5), 2);
        due.due("again(0) once more", x.again(0), 1);
        due.due("what came behind is not in it", x.count(5), 1);
    }

    private void keepUnknown() {
        due.of("Promise 32", "They are kept: THE BLOW. UNKNOWN.");
        SaidMine x = new SaidMine();
        int[] none = {MIN, -9, -1, 2, 3, MAX};
        for (int slot : none) {
            due.due("keep(" + slot + ")", x.keep(slot), UNKNOWN);
        }
        due.due("nothing is kept", x.again(0) + x.again(1), 2 * STATE);
        due.due("keep(0) of a new object", x.keep(0), 0);
        due.due("keep(1)", x.keep(1), 0);
        x.blow();
        due.due("kept anew", x.keep(1), 1);
        due.due("the first is as it was", x.again(0), 0);
        due.due("the second", x.again(1), 1);
    }

    private void againRefused() {
        due.of("Promise 33", "They are as they were kept: THE BLOW. UNKNOWN; STATE: none were kept.");
        SaidMine x = Check.coast("W01T013-");
        int[] none = {MIN, -9, -1, 2, 3, MAX};
        for (int slot : none) {
            due.due("again(" + slot + ")", x.again(slot), UNKNOWN);
        }
        due.due("again(0)", x.again(0), STATE);
        due.due("again(1)", x.again(1), STATE);
        x.keep(1);
        due.due("again(0), the other is kept", x.again(0), STATE);
        due.due("again(1)", x.again(1), 0);
        x.keep(0);
        due.due("again(0)", x.again(0), 0);
        x.coast();
        due.due("made anew: again(0)", x.again(0), STATE);
        due.due("made anew: again(1)", x.again(1), STATE);
    }

    private void againRowIsEmpty() {
        due.of("Term 3", "(THE ROW of ACTS is empty when one goes on).");
        SaidMine x = Check.coast("W05T013-");
        x.blow();
        x.blow();
        x.keep(0);
        due.due("keeping empties no row", x.count(10), 2);
        due.due("refused, and the row is left", x.again(1) + x.count(10), STATE + 2);
        x.again(0);
        due.due("acts", x.count(10), 0);
        due.due("undo", x.undo(), STATE);
        for (int i = 1; i <= 17; i++) {
            x.stone(0);
            due.due("acts behind it", x.count(10), Math.min(i, 16));
        }
        x.again(0);
        due.due("a full row is empty, too", x.undo(), STATE);
        x.blow();
        due.due("one act", x.undo(), 0);
        due.due("the blow", x.count(5), 2);
    }

    private void againKeeps() {
        due.of("Promise 33", "They are as they were kept: THE BLOW.");
        SaidMine x = Check.coast("W05H01T013-");
        x.keep(0);
        x.learn(1, true, true);
        x.see(0, true);
        x.seed(9);
        x.write('T');
        x.blow();
        due.due("again(0)", x.again(0), 0);
        due.due("letters", x.count(0), 12);
        due.due("lessons", x.count(11), 1);
        due.due("seen", x.count(12), 1);
        due.due("the seed", x.seed(0), 9);
        due.due("the place", x.thing(0, 0), 0);
        x.blow();
        x.blow();
        due.due("again and again", x.again(0), 0);
    }
}
