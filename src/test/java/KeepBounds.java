/** Boundary cases of what can be kept, of SHARE, RESTS, BEHIND and THE QUAY: terms 2, promises 15 to 21. */
final class KeepBounds {
    private static final int UNKNOWN = -1, OUTSIDE = -2, NONE = -9;
    private static final int MIN = Integer.MIN_VALUE, MAX = Integer.MAX_VALUE;
    private static final String SIX_THINGS = "T013-T013-T013-T013-T013-T013-";

    private final Sentences due;

    KeepBounds(Sentences due) {
        this.due = due;
    }

    void all() {
        toKeepOutside();
        toKeepByNone();
        toKeepBreathsOfTwo();
        toKeepBesideWhatIsSaid();
        toKeepLeastAndMost();
        toKeepThatInWhichItLies();
        byRefused();
        byNone();
        byLeastFirst();
        mostOfNothing();
        mostOfAll();
        mostBesideWhatIsSaid();
        shareRefused();
        shareOfOneToFour();
        shareInTheMean();
        shareInLeastTerms();
        shareNothingBeingSaid();
        restsRefused();
        restsWhetherItCan();
        restsSaidAlready();
        restsItsWorth();
        restsNoMore();
        restsOfEachLaw();
        behindRefused();
        behindLeastAndMost();
        quayRefused();
        quayLeastAndMost();
        nothingIsChanged();
    }

    // ---- to keep

    private void toKeepOutside() {
        due.of("Promise 15", "how many; NONE. OUTSIDE: things (bits of THINGS that there are).");
        for (int things = 0; things <= 6; things++) {
            SaidMine x = Check.coast("W01H04H04" + "T013-".repeat(things));
            int all = (1 << things) - 1;
            due.due("the empty set of " + things, x.toKeep(0), 0);
            due.due("all of " + things, x.toKeep(all), things);
            int[] none = {all + 1, all + 2, all | 64, 64, 1 << 30, MAX, -1, -2, ~all, MIN, MIN + 1};
            for (int set : none) {
                due.due("toKeep(" + set + ") of " + things, x.toKeep(set), OUTSIDE);
            }
        }
    }

    private void keepNone(String why, SaidMine x, int things) {
        due.due("toKeep, " + why, x.toKeep(things), NONE);
        due.due("by, " + why, x.by(things, 0), NONE);
    }

    private void toKeepByNone() {
        due.of("Term 2", "NONE: by none");
        keepNone("no house", Check.coast("W01T013-"), 1);
        keepNone("no breath", Check.coast("W01H00T013-"), 1);
        keepNone("too far", Check.coast("W02H24T013-"), 1);
        keepNone("owes", Check.coast("W01H04T013-D0"), 1);
        keepNone("nobody's", Check.coast("W21H04T013-"), 1);
        keepNone("its house has no breath", Check.coast("W21H04H00T0131"), 1);
        keepNone("two are one too few", Check.coast("W31H04T013-"), 1);
        keepNone("a breath too few", Check.coast("W01H04H01" + SIX_THINGS), 63);
        due.due("just breaths enough", Check.coast("W01H04H02" + SIX_THINGS).toKeep(63), 6);
        SaidMine x = Check.coast("W11H01H01H01T013-T013-");
        x.say(0, 0);
        x.say(1, 0);
        keepNone("two by the law of one", x, 1);
        keepNone("two by the law of one, and another thing", x, 3);
        due.due("the other one alone", x.toKeep(2), 1);
        x = Check.coast("W31H02H01T013-T013-");
        x.say(1, 1);
        keepNone("the second has said all", x, 1);
        due.due("one more is enough of the other", x.toKeep(2), 1);
    }

    /** A coast by the law of two, with two things; only these two houses have breaths. */
    private static SaidMine ofTwo(int first, int breaths, int second, int others) {
        StringBuilder s = new StringBuilder("W31");
        for (int house = 0; house < 4; house++) {
            s.append("H0").append(house == first ? breaths : house == second ? others : 0);
        }
        return Check.coast(s + "T013-T014-");
    }

    private void toKeepBreathsOfTwo() {
        due.of("Term 2", "so that all of the set STAY; BY");
        for (int first = 0; first < 4; first++) {
            for (int second = first + 1; second < 4; second++) {
                int both = 1 << first | 1 << second;
                keepNone("one of each", ofTwo(first, 1, second, 1), 3);
                keepNone("two and one", ofTwo(first, 2, second, 1), 3);
                keepNone("one and two", ofTwo(first, 1, second, 2), 3);
                keepNone("four and one", ofTwo(first, 4, second, 1), 3);
                keepNone("one and four", ofTwo(first, 1, second, 4), 3);
                due.due("the better one", ofTwo(first, 1, second, 4).most(), 4);
                due.due("one of them", ofTwo(first, 1, second, 1).by(2, 1), both);
                SaidMine x = ofTwo(first, 2, second, 2);
                due.due("two and two", x.toKeep(3), 4);
                due.due("by both", 100 * x.by(3, 0) + x.by(3, 1), 101 * both);
                due.due("both", x.most(), 7);
            }
        }
    }

    private void toKeepBesideWhatIsSaid() {
        due.of("Term 2", "the fewest that must be SAID now, beside what is SAID, so that all of the set STAY");
        SaidMine x = Check.coast("W31H02H02H02T013-T013-");
        due.due("nothing said", x.toKeep(3), 4);
        x.say(0, 0);
        due.due("one said", x.toKeep(3), 3);
        x.say(1, 0);
        due.due("one stays", x.toKeep(3), 2);
        due.due("what stays", x.toKeep(1), 0);
        x.stone(1);
        due.due("both stay", x.toKeep(3), 0);
        due.due("by nobody", x.by(3, 0) + x.by(3, 1), 0);
    }

    private void toKeepLeastAndMost() {
        due.of("Term 2", "TO KEEP a set of THINGS: the fewest");
        SaidMine x = Check.coast("W31H04H04H04H04" + SIX_THINGS);
        due.due("none of them", x.toKeep(0), 0);
        due.due("all of them", x.toKeep(63), 12);
        due.due("the last one", x.toKeep(32), 2);
        int[] by = {3, 3, 3, 3, 12, 12};
        for (int thing = 0; thing < 6; thing++) {
            due.due("by(63, " + thing + ")", x.by(63, thing), by[thing]);
        }
    }

    private void toKeepThatInWhichItLies() {
        due.of("Term 2", "(a THING that lies in another one: that one, and so on, must STAY)");
        SaidMine x = Check.coast("W01H04" + SIX_THINGS + "I01I12I23I34I45");
        for (int set = 1; set <= 63; set++) {
            due.due("toKeep(" + set + ")", x.toKeep(set), 1);
            due.due("by(" + set + ", 5)", x.by(set, 5), 1);
            due.due("by(" + set + ", 0)", x.by(set, 0), 0);
        }
        x.say(0, 0);
        due.due("what is said to the innermost is no help", x.toKeep(1), 1);
        x.stone(5);
        due.due("a stone on the outermost is", x.toKeep(63), 0);
    }

    // ---- by

    private void byRefused() {
        due.of("Promise 16", "HOUSES that say it more to a THING, as bits; NONE. OUTSIDE: things; UNKNOWN: thing.");
        SaidMine x = Check.coast("W01H01T013-T013-T013-");
        int[] noSets = {MIN, -9, -1, 8, 9, 64, MAX}, noThings = {MIN, -9, -1, 3, 4, 6, 9, MAX};
        for (int set : noSets) {
            due.due("by(" + set + ", 0)", x.by(set, 0), OUTSIDE);
            due.due("by(" + set + ", 3)", x.by(set, 3), OUTSIDE);
        }
        for (int thing : noThings) {
            due.due("by(0, " + thing + ")", x.by(0, thing), UNKNOWN);
            due.due("by(7, " + thing + "), by none", x.by(7, thing), UNKNOWN);
        }
        due.due("the empty set", x.by(0, 0) + x.by(0, 2), 0);
        due.due("the last thing", x.by(4, 2), 1);
    }

    private void byNone() {
        due.of("Promise 16", "as bits; NONE.");
        SaidMine x = Check.coast("W01H01T013-T013-T013-");
        for (int thing = 0; thing < 3; thing++) {
            due.due("a breath too few", x.by(3, thing), NONE);
            due.due("all of them", x.by(7, thing), NONE);
            due.due("none of them", x.by(0, thing), 0);
        }
        due.due("of what is not in the set", x.by(1, 1), 0);
    }

    private void byLeastFirst() {
        due.of("Term 2", "of the ways of fewest the first by THINGS (which HOUSES say it more, as bits, the least ones first)");
        SaidMine x = Check.coast("W01H01H01H01H01T013-T013-T013-T013-");
        for (int thing = 0; thing < 4; thing++) {
            due.due("one breath each", x.by(15, thing), 1 << thing);
        }
        x = Check.coast("W03H11H01T013-T213-");
        due.due("the least can not: the other thing needs it", x.by(3, 0), 2);
        due.due("the other thing", x.by(3, 1), 1);
        due.due("alone the least can", x.by(1, 0), 1);
        x = Check.coast("W31H01H01H01H01T013-T013-");
        due.due("two by the law of two", x.by(3, 0), 3);
        due.due("the other two", x.by(3, 1), 12);
        x.say(3, 0);
        due.due("beside what is said", x.by(3, 0), 1);
        due.due("what is left", x.by(3, 1), 6);
        x = Check.coast("W01H01H01T013-D0");
        due.due("the least owes", x.by(1, 0), 2);
    }

    // ---- the most, and shares in it

    private void mostOfNothing() {
        due.of("Promise 17", "THE MOST.");
        due.due("of a new object", new SaidMine().most(), 0);
        due.due("of no thing", Check.coast("W01H04").most(), 0);
        due.due("of no house", Check.coast("W01T019-").most(), 0);
        due.due("of worth 0", Check.coast("W01H04T010-").most(), 0);
        due.due("of no breath", Check.coast("W01H00T019-").most(), 0);
        due.due("by one that owes", Check.coast("W01H04T019-D0").most(), 0);
        due.due("too far", Check.coast("W02H24T019-").most(), 0);
        due.due("a place off", Check.coast("W02H14T019-T219-").most(), 18);
    }

    private void mostOfAll() {
        due.of("Term 2", "THE MOST: the most WORTH of THINGS that STAY");
        SaidMine x = Check.coast("W31H04H04H04H04T019-T019-T019-T019-T019-T019-");
        due.due("all of them", x.most(), 54);
        x = Check.coast("W01H01T011-T012-T013-T014-T015-T016-I05I15I25I35I45");
        due.due("all in one", x.most(), 21);
        x = Check.coast("W01T019-T019-T019-T019-T019-T019-");
        for (int thing = 0; thing < 6; thing++) {
            due.due("stones", x.most(), 9 * thing);
            x.stone(thing);
        }
        due.due("stones on all", x.most(), 54);
        due.due("both by three houses", Check.coast("W31H02H01H01T019-T015-").most(), 14);
        due.due("one of both, by two houses", Check.coast("W31H01H01T015-T019-").most(), 9);
    }

    private void mostBesideWhatIsSaid() {
        due.of("Term 2", "whatever is SAID now beside what is SAID.");
        SaidMine x = Check.coast("W01H01T013-T019-");
        due.due("nothing said", x.most(), 9);
        x.say(0, 0);
        due.due("its breath is gone", x.most(), 3);
        x.undo();
        due.due("undone", x.most(), 9);
        x = Check.coast("W11H01H01T019-");
        x.say(0, 0);
        due.due("just one", x.most(), 9);
        x.say(1, 0);
        due.due("one too many", x.most(), 0);
    }

    private void share(String what, SaidMine x, int house, int above, int below) {
        due.due("share of " + house + ", above: " + what, x.share(house, true), above);
        due.due("share of " + house + ", below: " + what, x.share(house, false), below);
    }

    private void shareRefused() {
        due.of("Promise 18", "SHARE. UNKNOWN.");
        SaidMine x = Check.coast("W01H01H01T013-T013-T013-");
        int[] none = {MIN, -9, -1, 2, 3, 4, MAX};
        for (int house : none) {
            due.due("share(" + house + ", true)", x.share(house, true), UNKNOWN);
            due.due("share(" + house + ", false)", x.share(house, false), UNKNOWN);
        }
        due.due("of a new object", new SaidMine().share(0, false), UNKNOWN);
    }

    private void shareOfOneToFour() {
        due.of("Term 2", "HOUSES come one by one, in each order as likely");
        for (int houses = 1; houses <= 4; houses++) {
            SaidMine x = Check.coast("W01" + "H01".repeat(houses) + "T017-");
            for (int house = 0; house < houses; house++) {
                share("of " + houses, x, house, 7, houses);
            }
        }
        SaidMine x = Check.coast("W31H01H01H01H01T017-");
        share("two must come", x, 3, 7, 4);
        x = Check.coast("W21H01H01H01H01T0173");
        share("its own house", x, 3, 7, 1);
        share("another house", x, 0, 0, 1);
        x = Check.coast("W31H02H01H01H01T018-T015-");
        share("the one with two breaths", x, 0, 9, 2);
        share("one with one breath", x, 1, 17, 6);
    }

    private void shareInTheMean() {
        due.of("Term 2", "those that have come saying what keeps the most WORTH: by how much in the mean that is more when it has come "
            + "than it was: a FRACTION.");
        SaidMine x = Check.coast("W01H01H01T013-T018-");
        share("8 when first, 3 when last", x, 0, 11, 2);
        x = Check.coast("W01H02H01H01T013-T018-T014-");
        share("12, 7 of two, 3 when last", x, 0, 22, 3);
        x = Check.coast("W01H04T015-H01T018-");
        share("of all that can be kept", x, 0, 9, 1);
        share("of the best alone", x, 1, 4, 1);
    }

    private void shareInLeastTerms() {
        due.of("The document", "FRACTIONS are told above (upper = true), below (1 and more), in least terms");
        share("nothing", Check.coast("W01H00H00H00H00"), 0, 0, 1);
        share("nothing of one", Check.coast("W01H00"), 0, 0, 1);
        share("six of two", Check.coast("W01H01H01T016-"), 0, 3, 1);
        share("six of four", Check.coast("W01H01H01H01H01T016-"), 0, 3, 2);
        share("nine of three", Check.coast("W01H01H01H01T019-"), 2, 3, 1);
        SaidMine x = Check.coast("W01H02T013-");
        x.say(0, 0);
        int[][] chances = {{1, 1}, {9, 10}, {4, 5}, {7, 10}, {3, 5}, {1, 2}, {2, 5}, {3, 10}, {1, 5}, {1, 10}, {0, 1}};
        for (int tenths = 0; tenths <= 10; tenths++) {
            due.due("chance above by " + tenths, x.forgotten(0, tenths, true), chances[tenths][0]);
            due.due("chance below by " + tenths, x.forgotten(0, tenths, false), chances[tenths][1]);
        }
    }

    private void shareNothingBeingSaid() {
        due.of("Term 2", "SHARE of a HOUSE: if, nothing being SAID, all having their BREATHS");
        SaidMine x = Check.coast("W01H01H01T014-T018-");
        share("nothing said", x, 0, 6, 1);
        x.say(0, 0);
        share("said to the lesser", x, 0, 6, 1);
        x.say(1, 0);
        share("no breath left", x, 1, 6, 1);
        x.stone(1);
        share("a stone lies", x, 1, 2, 1);
        x.stone(0);
        share("stones on all", x, 1, 0, 1);
        x = Check.coast("W01H01H01T018-D0");
        share("it owes", x, 0, 0, 1);
        x.pay(0);
        share("it paid", x, 0, 4, 1);
    }

    // ---- at rest

    private void restsRefused() {
        due.of("Promise 19", "RESTS, as bits of ways. UNKNOWN: all three; OUTSIDE: both HOUSES are one.");
        SaidMine x = Check.coast("W01H01H01H01T013-T013-");
        int[] noHouses = {MIN, -9, -1, 3, 4, MAX}, noThings = {MIN, -9, -1, 2, 3, 6, MAX};
        for (int house : noHouses) {
            due.due("rests(" + house + ", 0, 0)", x.rests(house, 0, 0), UNKNOWN);
            due.due("rests(0, " + house + ", 0)", x.rests(0, house, 0), UNKNOWN);
            due.due("both are none", x.rests(house, house, 0), UNKNOWN);
        }
        for (int thing : noThings) {
            due.due("rests(0, 1, " + thing + ")", x.rests(0, 1, thing), UNKNOWN);
            due.due("one house, no thing", x.rests(1, 1, thing), UNKNOWN);
        }
        for (int house = 0; house < 3; house++) {
            due.due("rests(" + house + ", " + house + ", 1)", x.rests(house, house, 1), OUTSIDE);
        }
    }

    private void restsWhetherItCan() {
        due.of("Term 2", "each says it now (if it has not yet; whether it has BREATH, is near, or not)");
        due.due("they can", Check.coast("W01H01H01T013-").rests(0, 1, 0), 6);
        due.due("no breath", Check.coast("W01H00H00T013-").rests(0, 1, 0), 6);
        due.due("too far", Check.coast("W05H54H54T013-").rests(0, 1, 0), 6);
        due.due("both", Check.coast("W35H50H50T013-").rests(0, 1, 0), 9);
        due.due("one that owes is not counted", Check.coast("W01H01H01T013-D0").rests(0, 1, 0), 4);
        due.due("both owe", Check.coast("W01H01H01T013-D0D1").rests(0, 1, 0), 1);
    }

    private void restsSaidAlready() {
        due.of("Term 2", "(one that has SAID it already can not say it now).");
        SaidMine x = Check.coast("W31H01H01H01T013-");
        x.say(0, 0);
        due.due("the first has said it", x.rests(0, 1, 0), 4);
        due.due("the other has said it", x.rests(1, 0, 0), 2);
        due.due("neither", x.rests(1, 2, 0), 6);
        x.say(1, 0);
        due.due("both have said it", x.rests(0, 1, 0), 1);
        due.due("it stays already", x.rests(2, 0, 0), 1);
        x = Check.coast("W11H01H01T013-");
        x.say(0, 0);
        due.due("just one already", x.rests(0, 1, 0), 1);
        x = Check.coast("W21H01H01T0130");
        x.say(1, 0);
        due.due("its own house is left", x.rests(0, 1, 0), 2);
    }

    private void restsItsWorth() {
        due.of("Term 2", "it has its WORTH, if it STAYS then, less 1 if it says it now: of the four ways");
        for (int worth = 0; worth <= 9; worth++) {
            String thing = "T01" + worth;
            int want = worth == 0 ? 1 : worth == 1 ? 7 : 6;
            due.due("one is enough, worth " + worth, Check.coast("W01H01H01" + thing + "-").rests(0, 1, 0), want);
            due.due("whoever's it is", Check.coast("W01H01H01" + thing + "0").rests(0, 1, 0), want);
            due.due("two must, worth " + worth, Check.coast("W31H01H01" + thing + "-").rests(0, 1, 0), worth == 0 ? 1 : 9);
            due.due("it can not stay", Check.coast("W21H01H01" + thing + "-").rests(0, 1, 0), 1);
        }
    }

    private void restsNoMore() {
        due.of("Term 2", "those in which neither has more by the other choice alone");
        due.due("worth 0: saying it costs", Check.coast("W01H01H01T010-").rests(0, 1, 0), 1);
        due.due("worth 1: as much by either choice", Check.coast("W01H01H01T011-").rests(0, 1, 0), 7);
        due.due("worth 2", Check.coast("W01H01H01T012-").rests(0, 1, 0), 6);
        due.due("worth 9", Check.coast("W01H01H01T019-").rests(0, 1, 0), 6);
        due.due("two for worth 1", Check.coast("W31H01H01T011-").rests(0, 1, 0), 9);
        due.due("two for worth 0", Check.coast("W31H01H01T010-").rests(0, 1, 0), 1);
        SaidMine x = Check.coast("W01H01H01T019-");
        x.stone(0);
        due.due("a stone", x.rests(0, 1, 0), 1);
    }

    private void restsOfEachLaw() {
        due.of("Term 2", "of the four ways (0 none, 1 the first one, 2 the other one, 3 both)");
        int[] ofTheFirst = {6, 6, 2, 9}, ofTheOther = {6, 6, 4, 9}, ofNobody = {6, 6, 1, 9};
        for (int law = 0; law <= 3; law++) {
            String houses = "W" + law + "1H01H01";
            due.due("law " + law + ", of the first", Check.coast(houses + "T0130").rests(0, 1, 0), ofTheFirst[law]);
            due.due("law " + law + ", of the other", Check.coast(houses + "T0131").rests(0, 1, 0), ofTheOther[law]);
            due.due("law " + law + ", nobody's", Check.coast(houses + "T013-").rests(0, 1, 0), ofNobody[law]);
        }
        SaidMine x = Check.coast("W01H01H01T013-T013-I01");
        due.due("what lies in another is not kept by it", x.rests(0, 1, 0), 1);
        due.due("that in which it lies", x.rests(0, 1, 1), 6);
    }

    // ---- behind so many blows

    private void behindRefused() {
        due.of("Promise 20", "The PLACE of a THING BEHIND n BLOWS. UNKNOWN; OUTSIDE: n.");
        SaidMine x = Check.coast("W05H00H00H00T013-T013-");
        int[] noThings = {MIN, -9, -1, 2, 3, 6, MAX}, noNumbers = {MIN, -9, -1, 10, 11, MAX};
        for (int thing : noThings) {
            for (int n = -1; n <= 10; n++) {
                due.due("behind(" + thing + ", " + n + ")", x.behind(thing, n), UNKNOWN);
            }
        }
        for (int n : noNumbers) {
            due.due("behind(0, " + n + ")", x.behind(0, n), OUTSIDE);
            due.due("behind(1, " + n + ")", x.behind(1, n), OUTSIDE);
        }
    }

    private void behindLeastAndMost() {
        due.of("Term 2", "BEHIND n BLOWS (0 to 9): the PLACE of a THING then");
        for (int pace = 1; pace <= 3; pace++) {
            SaidMine x = Check.coast("W05T0" + pace + "3-T013-I10");
            for (int n = 0; n <= 9; n++) {
                int want = n * pace > 5 ? 5 : n * pace;
                due.due("behind(0, " + n + ") by " + pace, x.behind(0, n), want);
                due.due("what lies in it", x.behind(1, n), want);
            }
            x.stone(0);
            due.due("one that stays", x.behind(0, 9) + x.behind(1, 9), 0);
        }
        SaidMine x = Check.coast("W05T513-");
        due.due("at last already", 10 * x.behind(0, 0) + x.behind(0, 9), 55);
    }

    private void quayRefused() {
        due.of("Promise 21", "THE QUAY. OUTSIDE: n.");
        SaidMine x = Check.coast("W05T519-");
        int[] noNumbers = {MIN, -9, -1, 10, 11, MAX};
        for (int n : noNumbers) {
            due.due("quay(" + n + ")", x.quay(n), OUTSIDE);
        }
        due.due("quay(0)", x.quay(0), 9);
        due.due("quay(9)", x.quay(9), 9);
    }

    private void quayLeastAndMost() {
        due.of("Term 2", "THE QUAY: WORTH of all that is at LAST then.");
        due.due("of a new object", new SaidMine().quay(0), 0);
        SaidMine x = Check.coast("W05T019-T119-T219-T319-T419-T519-");
        for (int n = 0; n <= 9; n++) {
            due.due("quay(" + n + ")", x.quay(n), n < 5 ? 9 * n + 9 : 54);
        }
        x.stone(0);
        due.due("one stays short of it", x.quay(9), 45);
        x.stone(5);
        due.due("one stays at it", x.quay(9), 45);
        x = Check.coast("W01T015-T013-I01");
        due.due("what lies in another", x.quay(1), 8);
        due.due("none there yet", x.quay(0), 0);
        due.due("of worth 0", Check.coast("W01T110-").quay(0), 0);
    }

    private void nothingIsChanged() {
        due.of("Term 2", "In what follows nothing is changed.");
        SaidMine x = Check.coast("W03H02H12T015-T113-T012-I20D1");
        x.say(0, 0);
        x.blow();
        String was = Remains.looks(x);
        x.toKeep(7);
        x.by(7, 1);
        x.most();
        x.share(0, true);
        x.rests(0, 1, 1);
        x.behind(1, 9);
        x.quay(9);
        x.judge(5, 1190909090L);
        due.isTrue("all is as it was", was.equals(Remains.looks(x)));
    }
}
