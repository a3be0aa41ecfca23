/** Boundary cases of an object, its COAST, HOUSES and THINGS: promises 1, 5, 6, 7, 34. */
final class CoastBounds {
    private static final int UNKNOWN = -1, OUTSIDE = -2, STATE = -3, NONE = -9;
    private static final int MIN = Integer.MIN_VALUE, MAX = Integer.MAX_VALUE;
    private static final String FULL_COAST = "W35H50H51H52H54T519-T519-T519-T519-T519-T5193D0D1D2D3";

    private final Sentences due;

    CoastBounds(Sentences due) {
        this.due = due;
    }

    void all() {
        numbers();
        none();
        numberedAsTold();
        uses();
        atFirst();
        madeAnew();
        newObject();
        coastOfFault();
        coastKeepsAndClears();
        coastOfLeastAndMost();
        house();
        houseNone();
        thing();
        thingNone();
        countOutside();
        countLeast();
        countMost();
    }

    private void numbers() {
        due.of("The document", "UNKNOWN = -1, OUTSIDE = -2, STATE = -3, FULL = -4, NONE = -9;");
        due.due("UNKNOWN", SaidMine.UNKNOWN, -1);
        due.due("OUTSIDE", SaidMine.OUTSIDE, -2);
        due.due("STATE", SaidMine.STATE, -3);
        due.due("FULL", SaidMine.FULL, -4);
    }

    private void none() {
        due.of("The document", "NONE is -9.");
        due.due("NONE", SaidMine.NONE, -9);
        due.due("NONE of a text without a fault", Check.coast("W01").fault(), -9);
    }

    private void numberedAsTold() {
        due.of("Term 1", "are numbered as they are told, each for itself; PLACES");
        SaidMine x = Check.coast("W05T115-H20T325-H40D1T531-");
        due.due("coast", x.coast(), 23);
        for (int i = 0; i < 2; i++) {
            due.due("house " + i, x.house(i, 0), 2 * i + 2);
        }
        for (int i = 0; i < 3; i++) {
            due.due("thing " + i, x.thing(i, 0), 2 * i + 1);
        }
        due.due("owes", x.count(9), 2);
        due.due("house 2", x.house(2, 0), UNKNOWN);
        due.due("thing 3", x.thing(3, 0), UNKNOWN);
    }

    private void uses() {
        due.of("The document", "An object is used for at most 512 calls after it has been made");
        SaidMine x = Check.coast("W05T013-");
        int callsToMakeIt = 10;
        for (int call = callsToMakeIt + 1; call <= 510; call++) {
            x.stone(0);
        }
        due.due("call 511: stone", x.stone(0), 1);
        due.due("call 512: blow", x.blow(), 0);
    }

    private void atFirst() {
        due.of("Term 1", "At first LAW is 0, LAST 1, there are no HOUSES, no THINGS.");
        SaidMine x = new SaidMine();
        due.due("law", x.count(1), 0);
        due.due("last", x.count(2), 1);
        due.due("houses", x.count(3), 0);
        due.due("things", x.count(4), 0);
    }

    private void madeAnew() {
        due.of("Term 1", "Nothing was SAID, no STONES lie, THE BLOW is 0, when THE COAST is made anew.");
        SaidMine x = Check.coast("W02H02T015-T013-D0");
        x.say(0, 0);
        x.stone(1);
        x.pay(0);
        x.blow();
        x.dawn();
        x.say(0, 0);
        x.blow();
        due.due("said ahead", x.count(8), 1);
        due.due("coast", x.coast(), 12);
        due.due("said", x.count(8) + x.house(0, 2), 0);
        due.due("breaths", x.house(0, 1), 2);
        due.due("stones", x.thing(0, 6) + x.thing(1, 6), 0);
        due.due("the blow", x.count(5), 0);
        due.due("owes", x.count(9), 1);
        due.due("places", x.thing(0, 0) + x.thing(1, 0), 0);
    }

    private void newObject() {
        due.of("Promise 1", "No houses, no things.");
        SaidMine x = new SaidMine();
        int[] counts = {0, 0, 1, 0, 0, 0, 0, 0, 0, 0, 0, 0, 0};
        for (int what = 0; what < counts.length; what++) {
            due.due("count(" + what + ")", x.count(what), counts[what]);
        }
        due.due("house(0, 0)", x.house(0, 0), UNKNOWN);
        due.due("thing(0, 0)", x.thing(0, 0), UNKNOWN);
        due.due("say(0, 0)", x.say(0, 0), UNKNOWN);
        due.due("stone(0)", x.stone(0), UNKNOWN);
        due.due("pay(0)", x.pay(0), UNKNOWN);
        due.due("undo()", x.undo(), STATE);
        due.due("judge(1, 0)", x.judge(1, 0), 0);
        due.due("judge(5, 9090909090)", x.judge(5, 9090909090L), NONE);
        due.due("toKeep(0)", x.toKeep(0), 0);
        due.due("toKeep(1)", x.toKeep(1), OUTSIDE);
        due.due("by(0, 0)", x.by(0, 0), UNKNOWN);
        due.due("most()", x.most(), 0);
        due.due("share(0, true)", x.share(0, true), UNKNOWN);
        due.due("rests(0, 0, 0)", x.rests(0, 0, 0), UNKNOWN);
        due.due("behind(0, 0)", x.behind(0, 0), UNKNOWN);
        due.due("quay(9)", x.quay(9), 0);
        due.due("laws()", x.laws(), 15);
        due.due("see(0, true)", x.see(0, true), UNKNOWN);
        due.due("heard(0, 0, 0)", x.heard(0, 0, 0), UNKNOWN);
        due.due("forgotten(0, 0, true)", x.forgotten(0, 0, true), UNKNOWN);
        due.due("winds(20)", x.winds(20), 0);
        due.due("again(0)", x.again(0), STATE);
        due.due("blow()", x.blow(), 0);
        due.due("dawn()", x.dawn(), 0);
        due.due("both are acts", x.count(10), 2);
        due.due("keep(0)", x.keep(0), 1);
    }

    private void coastOfFault() {
        due.of("Promise 5", "STATE: a FAULT.");
        SaidMine x = new SaidMine();
        due.due("coast of no text", x.coast(), STATE);
        String[] faults = {"X", "W", "W0", "W4", "W00", "W01H", "W01H0", "W01H05", "W01T", "W01T0", "W01T01", "W01T015",
            "W01T0150", "W01I", "W01D", "W01H00D", "W01H00D0D", "W01T015-T015-I", "W01T015-T015-I0", "W01T015-T015-I00",
            "W01X", "W35H00T53"};
        for (String text : faults) {
            Check.write(x, text);
            due.due("coast of " + text, x.coast(), STATE);
            due.due("the text stays", x.count(0), text.length());
            due.due("there is no coast", x.count(1) + x.count(2) + x.count(3) + x.count(4), 1);
        }
    }

    private void coastKeepsAndClears() {
        due.of("Promise 5", "THE TEXT (that stays as it is) is THE COAST (THE ROW of ACTS is empty, what was kept is gone; "
            + "LESSONS, what is SEEN, THE SEED stay)");
        SaidMine x = Check.coast("W01H01T015-");
        x.blow();
        x.keep(0);
        x.keep(1);
        x.learn(1, false, false);
        x.see(0, true);
        x.seed(12345678901L);
        due.due("coast", x.coast(), 11);
        due.due("letters", x.count(0), 11);
        due.due("acts", x.count(10), 0);
        due.due("undo", x.undo(), STATE);
        due.due("again(0)", x.again(0), STATE);
        due.due("again(1)", x.again(1), STATE);
        due.due("lessons", x.count(11), 1);
        due.due("laws", x.laws(), 12);
        due.due("seen", x.count(12), 1);
        due.due("heard", x.heard(0, 1, 2), 1);
        due.due("the seed", x.seed(0), 12345678901L);
        due.due("coast once more", x.coast(), 11);
    }

    private void coastOfLeastAndMost() {
        due.of("Promise 5", "10 times HOUSES, and THINGS. STATE");
        for (int houses = 0; houses <= 4; houses++) {
            for (int things = 0; things <= 6; things++) {
                String text = "W01" + "H00".repeat(houses) + "T015-".repeat(things);
                SaidMine x = new SaidMine();
                Check.write(x, text);
                due.due("coast of " + text, x.coast(), 10 * houses + things);
                due.due("the last house", x.house(houses - 1, 0), houses == 0 ? UNKNOWN : 0);
                due.due("one more house", x.house(houses, 0), UNKNOWN);
                due.due("the last thing", x.thing(things - 1, 0), things == 0 ? UNKNOWN : 0);
                due.due("one more thing", x.thing(things, 0), UNKNOWN);
            }
        }
    }

    private void house() {
        due.of("Promise 6", "Of a HOUSE its PLACE (what = 0), BREATHS left (1), to what it SAID (2: bits), 1 if it OWES (3), "
            + "THINGS it is near (4: bits).");
        SaidMine x = Check.coast("W05H00H54T013-T113-T213-T313-T413-T513-D1");
        int[] least = {0, 0, 0, 0, 3}, most = {5, 4, 0, 1, 48};
        for (int what = 0; what <= 4; what++) {
            due.due("house(0, " + what + ")", x.house(0, what), least[what]);
            due.due("house(1, " + what + ")", x.house(1, what), most[what]);
        }
        x = Check.coast("W01H04T013-T013-T013-T013-T013-T013-");
        due.due("near all", x.house(0, 4), 63);
        for (int thing = 2; thing < 6; thing++) {
            x.say(0, thing);
        }
        due.due("said to the last ones", x.house(0, 2), 60);
        due.due("no breath left", x.house(0, 1), 0);
        x = Check.coast("W05H24");
        due.due("near none", x.house(0, 4), 0);
    }

    private void houseNone() {
        due.of("Promise 6", "UNKNOWN; OUTSIDE.");
        SaidMine x = Check.coast("W05H00H00T015-T015-T015-");
        int[] noHouses = {MIN, -9, -1, 2, 3, 4, 5, MAX}, noWhats = {MIN, -9, -1, 5, 6, 7, MAX};
        for (int house : noHouses) {
            for (int what = -1; what <= 5; what++) {
                due.due("house(" + house + ", " + what + ")", x.house(house, what), UNKNOWN);
            }
        }
        for (int what : noWhats) {
            due.due("house(0, " + what + ")", x.house(0, what), OUTSIDE);
            due.due("house(1, " + what + ")", x.house(1, what), OUTSIDE);
        }
    }

    private void thing() {
        due.of("Promise 7", "Of a THING its PLACE (what = 0), how far it goes (1), WORTH (2), its HOUSE (3; NONE), in what it lies "
            + "(4; NONE), who are COUNTED (5: bits), 1 if a STONE lies on it (6), 1 if it STAYS (7).");
        SaidMine x = Check.coast("W05H51H51H51H51T010-T5393T510-T510-T510-T510-I15");
        int[] least = {0, 1, 0, NONE, NONE, 0, 0, 0}, most = {5, 3, 9, 3, 5, 15, 1, 1};
        for (int house = 0; house < 4; house++) {
            x.say(house, 1);
        }
        x.stone(1);
        x.stone(5);
        for (int what = 0; what <= 7; what++) {
            due.due("thing(0, " + what + ")", x.thing(0, what), least[what]);
            due.due("thing(1, " + what + ")", x.thing(1, what), most[what]);
        }
        x = Check.coast("W01H00T0150T015-I10");
        due.due("of the house 0", x.thing(0, 3), 0);
        due.due("in the thing 0", x.thing(1, 4), 0);
    }

    private void thingNone() {
        due.of("Promise 7", "UNKNOWN; OUTSIDE.");
        SaidMine x = Check.coast("W05H00H00H00T015-T015-");
        int[] noThings = {MIN, -9, -1, 2, 3, 5, 6, 7, MAX}, noWhats = {MIN, -9, -1, 8, 9, MAX};
        for (int thing : noThings) {
            for (int what = -1; what <= 8; what++) {
                due.due("thing(" + thing + ", " + what + ")", x.thing(thing, what), UNKNOWN);
            }
        }
        for (int what : noWhats) {
            due.due("thing(0, " + what + ")", x.thing(0, what), OUTSIDE);
            due.due("thing(1, " + what + ")", x.thing(1, what), OUTSIDE);
        }
    }

    private void countOutside() {
        due.of("Promise 34", "12 SEEN. OUTSIDE.");
        SaidMine x = Check.coast(FULL_COAST);
        int[] noWhats = {MIN, -9, -1, 13, 14, 100, MAX};
        for (int what : noWhats) {
            due.due("count(" + what + ")", x.count(what), OUTSIDE);
        }
    }

    private void countLeast() {
        due.of("Promise 34", "0 letters of THE TEXT, 1 LAW, 2 LAST, 3 HOUSES, 4 THINGS, 5 THE BLOW");
        SaidMine x = Check.coast("W01");
        x.wipe();
        int[] counts = {0, 0, 1, 0, 0, 0, 0, 0, 0, 0, 0, 0, 0};
        for (int what = 0; what < counts.length; what++) {
            due.due("count(" + what + ")", x.count(what), counts[what]);
        }
    }

    private void countMost() {
        due.of("Promise 34", "6 THINGS that STAY (bits), 7 that are at LAST (bits), 8 how many were SAID, 9 who OWES (bits), "
            + "10 ACTS in the row, 11 LESSONS, 12 SEEN.");
        SaidMine x = Check.coast(FULL_COAST);
        for (int i = 0; i < 6; i++) {
            x.learn(4, true, true);
            x.see(5, true);
            x.stone(i);
        }
        for (int i = 0; i < 11; i++) {
            x.blow();
        }
        Check.write(x, FULL_COAST + "ABC");
        int[] counts = {56, 3, 5, 4, 6, 11, 63, 63, 0, 15, 16, 6, 6};
        for (int what = 0; what < counts.length; what++) {
            due.due("count(" + what + ")", x.count(what), counts[what]);
        }
        x = Check.coast("W01H04H04H04H04T019-T019-T019-T019-T019-T019-");
        for (int house = 0; house < 4; house++) {
            for (int i = 0; i < 4; i++) {
                x.say(house, (house + i) % 6);
            }
        }
        due.due("all that can be said", x.count(8), 16);
    }
}
