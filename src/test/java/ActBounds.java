/** Boundary cases of what is SAID, HELD, blown, and of ACTS: terms 1 and 2, promises 8 to 14. */
final class ActBounds {
    private static final int UNKNOWN = -1, OUTSIDE = -2, STATE = -3, NONE = -9;
    private static final int MIN = Integer.MIN_VALUE, MAX = Integer.MAX_VALUE;
    private static final String SIX_THINGS = "T013-T013-T013-T013-T013-T013-";

    private final Sentences due;

    ActBounds(Sentences due) {
        this.due = due;
    }

    void all() {
        breathLeft();
        noMoreThanAPlace();
        eachOnce();
        counted();
        laws();
        stays();
        goesAndStaysAsThatOne();
        goesThatDoesNotStay();
        toLastAtMost();
        blowIsOneMore();
        stoneLaidOrTaken();
        paid();
        dawnOfAll();
        sixteenActs();
        firstIsForgotten();
        rowGoesRound();
        sayRefused();
        sayFirstRefusal();
        stone();
        pay();
        blow();
        dawn();
        undo();
        undoOfEach();
        judgeNumber();
        judgeRow();
        judgeFigures();
        judgePlaces();
        judgeThereAlready();
        judgeSaid();
        judgeNone();
        judgeNoneOfOneToFive();
    }

    // ---- what is said, and held

    private void breathLeft() {
        due.of("Term 1", "a HOUSE that has a BREATH left says mine to a THING");
        for (int breaths = 0; breaths <= 4; breaths++) {
            SaidMine x = Check.coast("W01H0" + breaths + SIX_THINGS);
            for (int thing = 0; thing < breaths; thing++) {
                due.due("breaths left of " + breaths, x.house(0, 1), breaths - thing);
                due.due("say", x.say(0, thing), 1);
            }
            due.due("no breath left of " + breaths, x.house(0, 1), 0);
            due.due("say without", x.say(0, 5), STATE);
            due.due("said", x.count(8), breaths);
        }
    }

    private void noMoreThanAPlace() {
        due.of("Term 1", "that is no more than a PLACE from it");
        for (int home = 0; home <= 5; home++) {
            for (int place = 0; place <= 5; place++) {
                SaidMine x = Check.coast("W05H" + home + "1T" + place + "13-");
                boolean near = home - place == 0 || home - place == 1 || place - home == 1;
                due.due("near " + home + " " + place, x.house(0, 4), near ? 1 : 0);
                due.due("say from " + home + " to " + place, x.say(0, 0), near ? 1 : OUTSIDE);
            }
        }
    }

    private void eachOnce() {
        due.of("Term 1", "to each once; a BREATH less is left");
        SaidMine x = Check.coast("W01H04H04T013-T013-");
        due.due("say", x.say(0, 0), 1);
        due.due("a breath less", x.house(0, 1), 3);
        due.due("the other house has all", x.house(1, 1), 4);
        due.due("once more", x.say(0, 0), STATE);
        due.due("no breath is gone by it", x.house(0, 1), 3);
        due.due("to another thing", x.say(0, 1), 1);
        due.due("by another house", x.say(1, 0), 1);
        x.dawn();
        due.due("behind a dawn", x.say(0, 0), 1);
    }

    private void counted() {
        due.of("Term 1", "COUNTED are those that said it to a THING and do not OWE.");
        SaidMine x = Check.coast("W01H01H01H01H01T013-D1D3");
        due.due("none said it", x.thing(0, 5), 0);
        due.due("one that owes said it", x.say(1, 0), 0);
        due.due("counted", x.thing(0, 5), 0);
        due.due("one that does not owe said it", x.say(2, 0), 1);
        due.due("counted", x.thing(0, 5), 4);
        x.say(0, 0);
        x.say(3, 0);
        due.due("all said it", x.thing(0, 5), 5);
        x.pay(1);
        due.due("one paid", x.thing(0, 5), 7);
        x.pay(3);
        due.due("all paid", x.thing(0, 5), 15);
    }

    /** Does a thing of that house (4: nobody's) stay when none, one, two, .. of the houses in turn have said it? */
    private void law(int law, int owner, String stays) {
        SaidMine x = Check.coast("W" + law + "1H01H01H01H01T013" + (owner == 4 ? "-" : "" + owner));
        due.due("law " + law + " of " + owner + ", none", x.thing(0, 7), stays.charAt(0) - '0');
        for (int house = 0; house < 4; house++) {
            due.due("law " + law + " of " + owner + ", up to " + house, x.say(house, 0), stays.charAt(house + 1) - '0');
        }
    }

    private void laws() {
        due.of("Term 1", "0: one or more; 1: just one; 2: its HOUSE is one of them; 3: two or more.");
        String[] byHouse = {"01111", "00111", "00011", "00001", "00000"};
        for (int owner = 0; owner <= 4; owner++) {
            law(0, owner, "01111");
            law(1, owner, "01000");
            law(2, owner, byHouse[owner]);
            law(3, owner, "00111");
        }
    }

    private void stays() {
        due.of("Term 1", "It STAYS, if it is HELD, or a STONE lies on it");
        SaidMine x = Check.coast("W01H01T013-");
        due.due("neither", x.count(6), 0);
        x.stone(0);
        due.due("a stone", x.count(6), 1);
        x.say(0, 0);
        due.due("both", x.count(6), 1);
        x.stone(0);
        due.due("held", x.count(6), 1);
        x.dawn();
        due.due("neither again", x.count(6), 0);
    }

    private void goesAndStaysAsThatOne() {
        due.of("Term 1", "a THING that lies in another one goes and STAYS as that one does.");
        SaidMine x = Check.coast("W03H01" + "T013-T023-T033-T023-T033-T013-" + "I01I12I23I34I45");
        for (int thing = 0; thing < 5; thing++) {
            x.stone(thing);
        }
        due.due("stones on all but the outermost", x.count(6), 0);
        due.due("said to one of them", x.say(0, 0), 0);
        due.due("counted of it", x.thing(0, 5), 1);
        due.due("blow", x.blow(), 63);
        for (int thing = 0; thing < 6; thing++) {
            due.due("goes as the outermost", x.thing(thing, 0), 1);
        }
        x.stone(5);
        due.due("a stone on the outermost", x.count(6), 63);
        due.due("blow", x.blow(), 0);
    }

    private void goesThatDoesNotStay() {
        due.of("Term 1", "A BLOW: each THING that lies in nothing and does not STAY goes");
        SaidMine x = Check.coast("W05H02T013-T013-T013-T023-T033-T013-I53");
        x.say(0, 0);
        x.say(0, 5);
        x.stone(1);
        due.due("blow", x.blow(), 60);
        int[] places = {0, 0, 1, 2, 3, 2};
        for (int thing = 0; thing < 6; thing++) {
            due.due("place of " + thing, x.thing(thing, 0), places[thing]);
        }
        x.dawn();
        x.stone(1);
        x.stone(3);
        due.due("what stayed goes, what went stays", x.blow(), 23);
    }

    private void toLastAtMost() {
        due.of("Term 1", "goes as many PLACES on as it goes, to LAST at most, and what lies in it.");
        for (int last = 1; last <= 5; last++) {
            for (int pace = 1; pace <= 3; pace++) {
                for (int place = 0; place <= last; place++) {
                    SaidMine x = Check.coast("W0" + last + "T" + place + pace + "3-T" + place + "13-I10");
                    int then = place + pace > last ? last : place + pace;
                    String told = "from " + place + " by " + pace + " to " + last;
                    due.due("blow " + told, x.blow(), place == last ? 0 : 3);
                    due.due(told, x.thing(0, 0), then);
                    due.due("what lies in it " + told, x.thing(1, 0), then);
                }
            }
        }
    }

    private void blowIsOneMore() {
        due.of("Term 1", "THE BLOW is one more.");
        SaidMine x = Check.coast("W01");
        due.due("none", x.count(5), 0);
        for (int i = 1; i <= 40; i++) {
            due.due("blow of nothing", x.blow(), 0);
            due.due("the blow", x.count(5), i);
        }
    }

    private void stoneLaidOrTaken() {
        due.of("Term 1", "A STONE is laid on a THING, or taken from it.");
        SaidMine x = Check.coast("W01T013-T013-");
        for (int i = 0; i < 4; i++) {
            due.due("stone", x.stone(1), 1 - i % 2);
            due.due("lies", x.thing(1, 6), 1 - i % 2);
            due.due("not on the other", x.thing(0, 6), 0);
        }
    }

    private void paid() {
        due.of("Term 1", "PAID: a HOUSE OWES no more.");
        SaidMine x = Check.coast("W01H01H01H01H01D0D3");
        x.pay(3);
        due.due("the last one paid", x.count(9), 1);
        x.pay(0);
        due.due("none owes", x.count(9), 0);
        x.dawn();
        x.blow();
        due.due("none owes again", x.count(9), 0);
    }

    private void dawnOfAll() {
        due.of("Term 1", "A DAWN: nothing is SAID any more, all have their BREATHS.");
        SaidMine x = Check.coast("W01H04H03H00H01" + SIX_THINGS);
        for (int thing = 0; thing < 4; thing++) {
            x.say(0, thing);
            x.say(1, thing);
            x.say(3, thing);
        }
        due.due("dawn", x.dawn(), 8);
        int[] breaths = {4, 3, 0, 1};
        for (int house = 0; house < 4; house++) {
            due.due("said", x.house(house, 2), 0);
            due.due("breaths", x.house(house, 1), breaths[house]);
        }
        due.due("stays", x.count(6), 0);
    }

    // ---- acts

    private void sixteenActs() {
        due.of("Term 1", "are a row (16 at most");
        SaidMine x = Check.coast("W01H00T013-");
        for (int i = 1; i <= 20; i++) {
            x.dawn();
            due.due("acts", x.count(10), i < 16 ? i : 16);
        }
    }

    private void firstIsForgotten() {
        due.of("Term 1", "of more the first one is forgotten); the last one can be undone.");
        for (int more = 0; more <= 1; more++) {
            SaidMine x = Check.coast("W05T013-");
            x.stone(0);
            for (int i = 0; i < 15 + more; i++) {
                x.blow();
            }
            for (int i = 15; i >= 0; i--) {
                due.due("undo", x.undo(), i);
            }
            due.due("undo of none", x.undo(), STATE);
            due.due("the first act is undone, if it is not forgotten", x.thing(0, 6), more);
            due.due("the blow", x.count(5), 0);
        }
    }

    private void rowGoesRound() {
        due.of("Term 1", "(16 at most; of more the first one is forgotten)");
        for (int made = 1; made <= 50; made += 7) {
            SaidMine x = Check.coast("W05T013-");
            for (int i = 0; i < made; i++) {
                x.blow();
            }
            int row = Math.min(made, 16);
            for (int i = row - 1; i >= 0; i--) {
                due.due("undo of " + made, x.undo(), i);
                due.due("the blow", x.count(5), made - row + i);
                due.due("the place", x.thing(0, 0), Math.min(made - row + i, 5));
            }
            due.due("undo of none", x.undo(), STATE);
            x.stone(0);
            due.due("an act behind it", x.count(10), 1);
            due.due("undone", x.undo() + x.thing(0, 6), 0);
        }
    }

    private void sayRefused() {
        due.of("Promise 8", "UNKNOWN: both; OUTSIDE: it is not near; STATE: it SAID so already, or has no BREATH left.");
        SaidMine x = Check.coast("W05H02H10T013-T113-T213-");
        int[] noHouses = {MIN, -9, -1, 2, 3, 4, 9, MAX}, noThings = {MIN, -9, -1, 3, 4, 5, 6, MAX};
        for (int house : noHouses) {
            due.due("say(" + house + ", 0)", x.say(house, 0), UNKNOWN);
        }
        for (int thing : noThings) {
            due.due("say(0, " + thing + ")", x.say(0, thing), UNKNOWN);
        }
        due.due("not near", x.say(0, 2), OUTSIDE);
        due.due("no breath ever", x.say(1, 2), STATE);
        due.due("said", x.say(0, 1), 1);
        due.due("so already, a breath left", x.say(0, 1), STATE);
        due.due("the last breath", x.say(0, 0), 1);
        due.due("so already, no breath left", x.say(0, 0), STATE);
    }

    private void sayFirstRefusal() {
        due.of("Promise 8", "1 if the THING STAYS then, 0. UNKNOWN: both; OUTSIDE");
        SaidMine x = Check.coast("W05H01H20T013-T033-");
        due.due("stays then", x.say(0, 1), 1);
        due.due("no house ahead of not near", x.say(2, 0), UNKNOWN);
        due.due("not near ahead of no breath", x.say(1, 0), OUTSIDE);
        x.dawn();
        x.say(0, 0);
        x.blow();
        due.due("near still, said already", x.say(0, 0), STATE);
        due.due("gone on, not near ahead of no breath", x.say(0, 1), OUTSIDE);
        x = Check.coast("W05H02H02T013-D0");
        x.say(0, 0);
        x.blow();
        x.blow();
        due.due("not near ahead of said already", x.say(0, 0), OUTSIDE);
        due.due("0: it does not stay", Check.coast("W31H01T013-").say(0, 0), 0);
    }

    private void stone() {
        due.of("Promise 9", "A STONE: 1 if it lies there then, 0. UNKNOWN.");
        SaidMine x = Check.coast("W01H00H00" + SIX_THINGS);
        int[] noThings = {MIN, -9, -1, 6, 7, MAX};
        for (int thing : noThings) {
            due.due("stone(" + thing + ")", x.stone(thing), UNKNOWN);
        }
        for (int thing = 0; thing < 6; thing++) {
            due.due("stone(" + thing + ")", x.stone(thing), 1);
        }
        due.due("all stay", x.count(6), 63);
        for (int thing = 0; thing < 6; thing++) {
            due.due("stone(" + thing + ") again", x.stone(thing), 0);
        }
        due.due("none stays", x.count(6), 0);
        x = Check.coast("W01H00H00T013-");
        due.due("one thing, two houses", x.stone(1), UNKNOWN);
    }

    private void pay() {
        due.of("Promise 10", "PAID: THINGS that STAY then, as bits. UNKNOWN; STATE: it OWES nothing.");
        SaidMine x = Check.coast("W11H01H04H01T013-T013-T013-I21D1D0");
        int[] noHouses = {MIN, -9, -1, 3, 4, MAX};
        for (int house : noHouses) {
            due.due("pay(" + house + ")", x.pay(house), UNKNOWN);
        }
        due.due("it never owed", x.pay(2), STATE);
        x.say(0, 0);
        x.say(1, 0);
        x.say(1, 1);
        due.due("pay(1)", x.pay(1), 7);
        due.due("pay(1) again", x.pay(1), STATE);
        due.due("fewer stay then", x.pay(0), 6);
        due.due("pay(0) again", x.pay(0), STATE);
        x.undo();
        due.due("undone, and paid again", x.pay(0), 6);
    }

    private void blow() {
        due.of("Promise 11", "A BLOW: which THINGS come to another PLACE, as bits (those that lie in others, too).");
        due.due("of nothing", new SaidMine().blow(), 0);
        SaidMine x = Check.coast("W05" + "T013-T013-T513-T413-T013-T013-" + "I01");
        x.stone(4);
        due.due("blow", x.blow(), 43);
        due.due("blow again", x.blow(), 35);
        x.stone(1);
        due.due("what lies in one that stays", x.blow(), 32);
        x = Check.coast("W01" + SIX_THINGS);
        due.due("all", x.blow(), 63);
        due.due("none", x.blow(), 0);
    }

    private void dawn() {
        due.of("Promise 12", "A DAWN: how many were SAID.");
        due.due("of a new object", new SaidMine().dawn(), 0);
        SaidMine x = Check.coast("W01H04H04H04H04" + SIX_THINGS);
        due.due("none", x.dawn(), 0);
        x.say(3, 5);
        due.due("one", x.dawn(), 1);
        for (int i = 0; i < 16; i++) {
            x.say(i % 4, i / 4);
        }
        due.due("sixteen", x.dawn(), 16);
        due.due("none again", x.dawn(), 0);
    }

    private void undo() {
        due.of("Promise 13", "The last ACT is undone: how many are left. STATE: there is none.");
        SaidMine x = Check.coast("W01H01T013-");
        due.due("of none", x.undo(), STATE);
        x.blow();
        due.due("of one", x.undo(), 0);
        due.due("of none again", x.undo(), STATE);
        x.stone(9);
        x.say(0, 9);
        x.pay(0);
        x.keep(0);
        x.learn(1, true, true);
        x.see(0, true);
        x.seed(4);
        x.winds(3);
        x.write('T');
        due.due("what is no act", x.undo(), STATE);
        x.blow();
        x.again(0);
        due.due("gone on from a slot", x.undo(), STATE);
        x.blow();
        x.unlearn();
        x.unsee();
        x.wipe();
        due.due("an act ahead of others that are none", x.undo(), 0);
    }

    private void undoOfEach() {
        due.of("Term 1", "ACTS (SAID, STONES, PAID, BLOWS, DAWNS)");
        SaidMine x = Check.coast("W03H02H01T013-T023-D0");
        x.say(1, 1);
        x.say(0, 0);
        x.stone(0);
        x.pay(0);
        x.blow();
        x.dawn();
        due.due("undo a dawn", x.undo(), 5);
        due.due("said", 10 * x.house(0, 2) + x.house(1, 2), 12);
        due.due("undo a blow", x.undo(), 4);
        due.due("the blow", x.count(5), 0);
        due.due("undo what was paid", x.undo(), 3);
        due.due("owes", x.count(9), 1);
        due.due("undo a stone", x.undo(), 2);
        due.due("no stone", x.thing(0, 6), 0);
        due.due("undo what was said", x.undo(), 1);
        due.due("breaths", x.house(0, 1), 2);
        due.due("said by the other house", x.count(8), 1);
        due.due("undo the first", x.undo(), 0);
        due.due("nothing is said", x.count(8), 0);
    }

    // ---- judged

    private void judgeNumber() {
        due.of("Promise 14", "OUTSIDE: n, row");
        SaidMine x = Check.coast("W05");
        int[] none = {MIN, -9, -1, 0, 6, 7, 10, MAX};
        for (int n : none) {
            due.due("judge(" + n + ", 0)", x.judge(n, 0), OUTSIDE);
            due.due("judge(" + n + ", 90)", x.judge(n, 90), OUTSIDE);
        }
        due.due("six blows", x.judge(6, 909090909090L), OUTSIDE);
        long row = 0;
        for (int n = 1; n <= 5; n++) {
            row = 100 * row + 90;
            due.due("judge(" + n + ", " + row + ")", x.judge(n, row), NONE);
        }
    }

    private void judgeRow() {
        due.of("Promise 14", "row (0 or more, 2 n figures at most).");
        SaidMine x = Check.coast("W05H01T013-");
        due.due("row 0", x.judge(1, 0), NONE);
        long beyond = 1;
        for (int n = 1; n <= 5; n++) {
            beyond *= 100;
            due.due("row of 2 n figures", x.judge(n, beyond - 1), 0);
            due.due("row of 2 n figures and one", x.judge(n, beyond), OUTSIDE);
            due.due("row of MAX", x.judge(n, Long.MAX_VALUE), OUTSIDE);
            due.due("row of MAX of ints", x.judge(n, MAX), n < 5 ? OUTSIDE : 0);
            due.due("row of 2 to the 32nd, and 90", x.judge(n, 4294967296L + 90), n < 5 ? OUTSIDE : 0);
            due.due("row -1", x.judge(n, -1), OUTSIDE);
            due.due("row -90", x.judge(n, -90), OUTSIDE);
            due.due("row of MIN", x.judge(n, Long.MIN_VALUE), OUTSIDE);
        }
    }

    private void judgeFigures() {
        due.of("Term 2", "told as two figures each (the first one's are the highest of row) (a HOUSE and a THING: SAID; "
            + "9 and 0: a BLOW)");
        SaidMine x = Check.coast("W05H04H04T013-T013-T513-");
        for (int figures = 0; figures <= 99; figures++) {
            boolean can = figures == 0 || figures == 1 || figures == 10 || figures == 11 || figures == 90;
            due.due("judge(1, " + figures + ")", x.judge(1, figures), can ? NONE : 0);
            due.due("judge(2, 90" + figures + ")", x.judge(2, 9000 + figures), can ? NONE : 1);
            due.due("judge(2, " + figures + "90)", x.judge(2, 100 * figures + 90), can ? NONE : 0);
        }
        due.due("zeros ahead", x.judge(2, 1), NONE);
        due.due("the same once more", x.judge(2, 0), 1);
        due.due("all zeros", x.judge(5, 0), 1);
    }

    private void judgePlaces() {
        due.of("Term 2", "the place (from 0 on) of the first that can not be, or by which a THING comes to LAST that was not there");
        long blows = 9090909090L;
        for (int last = 1; last <= 5; last++) {
            due.due("the blow to " + last, Check.coast("W0" + last + "T013-").judge(5, blows), last - 1);
            due.due("with what lies in it", Check.coast("W0" + last + "T013-T013-I01").judge(5, blows), last - 1);
        }
        due.due("a blow fewer", Check.coast("W05T013-").judge(4, 90909090), NONE);
        long[] rows = {9999999999L, 9099999999L, 9090999999L, 9090909999L, 9090909099L};
        for (int place = 0; place < 5; place++) {
            due.due("what can not be", Check.coast("W05").judge(5, rows[place]), place);
        }
        SaidMine x = Check.coast("W05T213-");
        x.blow();
        due.due("from now on", x.judge(5, blows), 1);
    }

    private void judgeThereAlready() {
        due.of("Term 2", "comes to LAST that was not there");
        SaidMine x = Check.coast("W05T513-");
        due.due("there from the first", x.judge(5, 9090909090L), NONE);
        x = Check.coast("W01T013-T113-");
        due.due("one there, one not", x.judge(1, 90), 0);
        x.blow();
        due.due("both there", x.judge(5, 9090909090L), NONE);
        x = Check.coast("W01T013-");
        x.stone(0);
        due.due("one that stays", x.judge(5, 9090909090L), NONE);
    }

    private void judgeSaid() {
        due.of("Term 2", "JUDGED: n things (1 to 5) from now on");
        SaidMine x = Check.coast("W05H02H41T013-T013-T013-T213-D1");
        due.due("more than its breaths", x.judge(3, 20001), 2);
        due.due("just its breaths", x.judge(2, 2), NONE);
        due.due("too far now", x.judge(1, 3) + x.judge(1, 13), 0);
        due.due("too far behind two blows", x.judge(4, 90900000), 2);
        due.due("near behind a blow", x.judge(2, 9013), NONE);
        due.due("one that owes says it", Check.coast("W02H11T113-D0").judge(2, 90), 1);
        due.due("one that does not", Check.coast("W02H11T113-").judge(2, 90), NONE);
        x.say(0, 0);
        due.due("said ahead", x.judge(1, 0), 0);
        due.due("just one breath left", x.judge(2, 201), 1);
    }

    private void judgeNone() {
        due.of("Promise 14", "JUDGED; NONE.");
        SaidMine x = Check.coast("W02H04" + "T013-T013-T013-T013-");
        due.due("four said and a blow", x.judge(5, 1020390), NONE);
        due.due("three said and two blows", x.judge(5, 1029090), 4);
        due.due("nothing is changed", x.count(5) + x.count(8) + x.count(10) + x.thing(3, 0), 0);
    }

    private void judgeNoneOfOneToFive() {
        due.of("Term 2", "comes to LAST that was not there; NONE: none.");
        SaidMine x = Check.coast("W05H04T013-T013-T013-T013-");
        long[] rows = {0, 1, 102, 10203, 1020390};
        for (int n = 1; n <= 5; n++) {
            due.due("judge(" + n + ", " + rows[n - 1] + ")", x.judge(n, rows[n - 1]), NONE);
        }
        due.due("four blows that bring none there", x.judge(4, 90909090), NONE);
        due.due("nothing to bring there", new SaidMine().judge(5, 9090909090L), NONE);
    }
}
