/** The promises one by one: ordinary calls, the edges that the document names, and what is refused. */
public final class PromiseTest {
    private static final int UNKNOWN = -1, OUTSIDE = -2, STATE = -3, FULL = -4, NONE = -9;
    private static final int[] NO_NUMBERS = {Integer.MIN_VALUE, -1000000, -9, -1, 1000000, Integer.MAX_VALUE};

    private static final Check CHECK = new Check();

    private PromiseTest() { }

    public static void main(String[] args) {
        newObject();
        writeAndWipe();
        faults();
        faultsOfLying();
        coast();
        houses();
        things();
        say();
        held();
        stone();
        pay();
        blow();
        dawn();
        undo();
        undoLongRow();
        judge();
        toKeep();
        toKeepByLaws();
        most();
        share();
        rests();
        behindAndQuay();
        learn();
        next();
        see();
        heard();
        forgotten();
        seedAndWinds();
        slots();
        count();
        CHECK.end("PromiseTest");
    }

    private static void due(String call, long got, long want) {
        CHECK.due(call, got, want);
    }

    private static void newObject() {
        SaidMine x = new SaidMine();
        int[] counts = {0, 0, 1, 0, 0, 0, 0, 0, 0, 0, 0, 0, 0};
        for (int what = 0; what < counts.length; what++) {
            due("new: count " + what, x.count(what), counts[what]);
        }
        due("new: fault", x.fault(), 0);
        due("new: coast", x.coast(), STATE);
        due("new: house", x.house(0, 0), UNKNOWN);
        due("new: thing", x.thing(0, 0), UNKNOWN);
        due("new: undo", x.undo(), STATE);
        due("new: blow", x.blow(), 0);
        due("new: most", x.most(), 0);
        due("new: toKeep", x.toKeep(0), 0);
        due("new: laws", x.laws(), 15);
        due("new: seed", x.seed(1), 0);
        due("new: again", x.again(1), STATE);
    }

    private static void writeAndWipe() {
        SaidMine x = new SaidMine();
        due("write -1", x.write(-1), OUTSIDE);
        due("write 256", x.write(256), OUTSIDE);
        for (int odd : NO_NUMBERS) {
            due("write odd", x.write(odd), OUTSIDE);
        }
        for (int i = 1; i <= 56; i++) {
            due("write", x.write(i % 2 == 0 ? 0 : 255), i);
        }
        due("write when full", x.write(87), FULL);
        due("write OUTSIDE ahead of FULL", x.write(256), OUTSIDE);
        due("letters", x.count(0), 56);
        due("wipe", x.wipe(), 56);
        due("wipe again", x.wipe(), 0);
        due("letters when wiped", x.count(0), 0);
        due("write when wiped", x.write('W'), 1);
    }

    private static void fault(String text, int want) {
        SaidMine x = new SaidMine();
        Check.write(x, text);
        due("fault of " + text, x.fault(), want);
        due("letters after fault of " + text, x.count(0), text.length());
        due("coast of " + text, x.coast() < 0 ? STATE : 0, want == NONE ? 0 : STATE);
    }

    private static void faults() {
        fault("", 0);
        fault("w", 0);
        fault("H", 0);
        fault("W", 1);
        fault("W3", 2);
        fault("W4", 1);
        fault("W/", 1);
        fault("W00", 2);
        fault("W06", 2);
        fault("W05", NONE);
        fault("W05W", 3);
        fault("W01\u0001", 3);
        fault("W01\u0000", 3);
        fault("W01H", 4);
        fault("W01H1", 5);
        fault("W01H2", 4);
        fault("W05H54", NONE);
        fault("W05H6", 4);
        fault("W01H15", 5);
        fault("W01H-", 4);
        fault("W01H00H00H00H00", NONE);
        fault("W01H00H00H00H00H", 15);
        fault("W01T", 4);
        fault("W01T2", 4);
        fault("W01T00", 5);
        fault("W01T04", 5);
        fault("W01T0-", 5);
        fault("W01T03", 6);
        fault("W01T03-", 6);
        fault("W01T039", 7);
        fault("W01T039-", NONE);
        fault("W01T0390", 7);
        fault("W01H00T0390", NONE);
        fault("W01H00T0391", 10);
        fault("W01T039-T039-T039-T039-T039-T039-", NONE);
        fault("W01T039-T039-T039-T039-T039-T039-T", 33);
        fault("W01D", 3);
        fault("W01H00D", 7);
        fault("W01H00D1", 7);
        fault("W01H00D0", NONE);
        fault("W01H00D0D", 8);
        fault("W01H00H00D0D0", 12);
        fault("W01H00H00D1D0", NONE);
        fault("W01H00H00D1D0D", 13);
        fault("W01H00D0H00D1", NONE);
        StringBuilder longest = new StringBuilder("W05");
        for (int i = 0; i < 6; i++) {
            longest.append("T053-");
        }
        fault(longest.toString(), 5);
        fault("W05H00H00H00H00T013-T013-T013-T013-T013-T013-I01I12I23I3", 56);
    }

    private static void faultsOfLying() {
        fault("W01I", 3);
        fault("W01T015-I", 8);
        fault("W01T015-T115-I", 13);
        fault("W01T015-T015-I", 14);
        fault("W01T015-T015-I2", 14);
        fault("W01T015-T015-I00", 15);
        fault("W01T015-T015-I02", 15);
        fault("W01T015-T015-I01", NONE);
        fault("W01T015-T015-I01I", 16);
        fault("W01T015-T115-T015-I1", 19);
        fault("W01T015-T115-T015-I01", 20);
        fault("W01T015-T115-T015-I20", NONE);
        fault("W01T015-T015-T015-I01I0", 22);
        fault("W01T015-T015-T015-I01I10", 23);
        fault("W01T015-T015-T015-I01I12", NONE);
        fault("W01T015-T015-T015-I01I21", NONE);
        fault("W01T015-T015-T015-I01I20", NONE);
        fault("W01T015-T015-T015-I01I12I", 24);
        fault("W01T015-T015-T015-I01I12T015-I20", 31);
        fault("W01T015-T015-T015-I01I12T015-I21", 31);
        fault("W01T015-T015-T015-I01I12T015-I23", NONE);
        fault("W01T015-T015-I01T015-I02", 22);
    }

    private static void coast() {
        SaidMine x = Check.coast("W23H02H14T013-T1291T013-I02D1");
        due("coast again", x.coast(), 23);
        due("law", x.count(1), 2);
        due("last", x.count(2), 3);
        due("text stays", x.count(0), 29);
        x.say(0, 0);
        x.stone(1);
        x.blow();
        x.keep(0);
        x.learn(1, true, true);
        x.see(2, false);
        x.seed(77);
        x.write('Q');
        due("coast of a fault", x.coast(), STATE);
        due("the row is left by a refused coast", x.count(10), 3);
        due("the houses are left by a refused coast", x.count(3), 2);
        due("what was kept is left by a refused coast", x.again(0), 1);
        x.blow();
        Check.write(x, "W01T115-");
        due("the coast stays till it is made anew", x.count(4), 3);
        due("coast", x.coast(), 1);
        int[] counts = {8, 0, 1, 0, 1, 0, 0, 1, 0, 0, 0, 1, 1};
        for (int what = 0; what < counts.length; what++) {
            due("anew: count " + what, x.count(what), counts[what]);
        }
        due("anew: kept is gone", x.again(0), STATE);
        due("anew: undo", x.undo(), STATE);
        due("anew: the seed stays", x.seed(0), 77);
        due("anew: lessons stay", x.laws(), 7);
        due("anew: no stone", x.thing(0, 6), 0);
        x.stone(0);
        due("coast with no stones", x.coast() + x.thing(0, 6) + x.count(6), 1);
        Check.write(x, "W35H00T53");
        due("a fault told", x.fault(), 9);
        due("a fault told leaves the coast", 100 * x.count(1) + 10 * x.count(2) + x.count(3), 10);
        due("and its things", x.thing(0, 0), 1);
        Check.write(x, "W01");
        due("coast of nothing", x.coast(), 0);
        due("no things", x.thing(0, 0), UNKNOWN);
    }

    private static void houses() {
        SaidMine x = Check.coast("W05H02H34H50T013-T113-T213-T313-T413-T513-D1");
        due("place", x.house(1, 0), 3);
        due("place of the last one", x.house(2, 0), 5);
        due("breaths", x.house(1, 1), 4);
        due("no breaths", x.house(2, 1), 0);
        due("said nothing", x.house(0, 2), 0);
        due("owes nothing", x.house(0, 3), 0);
        due("owes", x.house(1, 3), 1);
        due("near 0", x.house(0, 4), 3);
        due("near 1", x.house(1, 4), 28);
        due("near 2", x.house(2, 4), 48);
        x.say(0, 1);
        due("breaths left", x.house(0, 1), 1);
        due("said", x.house(0, 2), 2);
        x.blow();
        due("near behind a blow", x.house(0, 4), 3);
        due("said behind a blow", x.house(0, 2), 2);
        for (int odd : NO_NUMBERS) {
            due("no house", x.house(odd, 0), UNKNOWN);
            due("no what of a house", x.house(0, odd), OUTSIDE);
            due("no house ahead of no what", x.house(odd, odd), UNKNOWN);
        }
        due("house 3", x.house(3, 0), UNKNOWN);
        due("what 5", x.house(0, 5), OUTSIDE);
    }

    private static void things() {
        SaidMine x = Check.coast("W04H11T1390T2100T111-I20");
        int[] first = {1, 3, 9, 0, NONE, 0, 0, 0};
        int[] second = {2, 1, 0, 0, NONE, 0, 0, 0};
        int[] third = {1, 1, 1, NONE, 0, 0, 0, 0};
        for (int what = 0; what < 8; what++) {
            due("thing 0, " + what, x.thing(0, what), first[what]);
            due("thing 1, " + what, x.thing(1, what), second[what]);
            due("thing 2, " + what, x.thing(2, what), third[what]);
        }
        x.say(0, 0);
        x.stone(1);
        due("counted", x.thing(0, 5), 1);
        due("a stone lies", x.thing(1, 6), 1);
        due("no stone lies", x.thing(0, 6), 0);
        due("stays by what is said", x.thing(0, 7), 1);
        due("stays by a stone", x.thing(1, 7), 1);
        due("stays by that in which it lies", x.thing(2, 7), 1);
        due("not counted of the thing itself", x.thing(2, 5), 0);
        for (int odd : NO_NUMBERS) {
            due("no thing", x.thing(odd, 0), UNKNOWN);
            due("no what of a thing", x.thing(0, odd), OUTSIDE);
            due("no thing ahead of no what", x.thing(odd, odd), UNKNOWN);
        }
        due("thing 3", x.thing(3, 0), UNKNOWN);
        due("what 8", x.thing(0, 8), OUTSIDE);
    }

    private static void say() {
        SaidMine x = Check.coast("W04H12H20T015-T215-T315-T415-D1");
        due("say", x.say(0, 0), 1);
        due("say so again", x.say(0, 0), STATE);
        due("say on the other side", x.say(0, 1), 1);
        due("too far", x.say(0, 2), OUTSIDE);
        due("far further", x.say(0, 3), OUTSIDE);
        due("no breath", x.say(1, 1), STATE);
        due("too far ahead of no breath", x.say(1, 0), OUTSIDE);
        due("no breath left", x.house(0, 1), 0);
        for (int odd : NO_NUMBERS) {
            due("say of no house", x.say(odd, 0), UNKNOWN);
            due("say to no thing", x.say(0, odd), UNKNOWN);
        }
        due("say of house 2", x.say(2, 0), UNKNOWN);
        due("say to thing 4", x.say(0, 4), UNKNOWN);
        due("said", x.count(8), 2);
        due("acts", x.count(10), 2);
    }

    /** One thing of house 1, said to by houses one behind the other: does it stay? */
    private static void heldBy(int law, int[] stays) {
        SaidMine x = Check.coast("W" + law + "1H01H01H01T0151");
        due("law " + law + " none", x.thing(0, 7), 0);
        for (int house = 0; house < 3; house++) {
            due("law " + law + ", house " + house, x.say(house, 0), stays[house]);
        }
    }

    private static void held() {
        heldBy(0, new int[] {1, 1, 1});
        heldBy(1, new int[] {1, 0, 0});
        heldBy(2, new int[] {0, 1, 1});
        heldBy(3, new int[] {0, 1, 1});
        SaidMine x = Check.coast("W21H01T015-");
        due("nobody's thing by law 2", x.say(0, 0), 0);
        x = Check.coast("W01H02H01T0150T015-I10D0");
        due("one that owes says mine", x.say(0, 0), 0);
        due("it is not counted", x.thing(0, 5), 0);
        due("it has a breath less", x.house(0, 1), 1);
        due("said to what lies in it", x.say(1, 1), 0);
    }

    private static void stone() {
        SaidMine x = Check.coast("W01T015-T015-T115-I01");
        due("stone", x.stone(0), 1);
        due("a stone on what lies in another", x.count(6), 0);
        due("stone on that", x.stone(1), 1);
        due("both stay", x.count(6), 3);
        due("stone off", x.stone(0), 0);
        due("both stay still", x.count(6), 3);
        due("stone off that", x.stone(1), 0);
        due("none stays", x.count(6), 0);
        for (int odd : NO_NUMBERS) {
            due("stone on no thing", x.stone(odd), UNKNOWN);
        }
        due("stone on thing 3", x.stone(3), UNKNOWN);
        due("acts", x.count(10), 4);
    }

    private static void pay() {
        SaidMine x = Check.coast("W11H02H02T015-T015-T015-I21D1D0");
        x.say(0, 0);
        x.say(1, 0);
        x.say(1, 1);
        due("none counted", x.count(6), 0);
        due("pay", x.pay(1), 7);
        due("pay again", x.pay(1), STATE);
        due("owes", x.count(9), 1);
        due("pay what keeps no more", x.pay(0), 6);
        due("counted", x.thing(0, 5), 3);
        for (int odd : NO_NUMBERS) {
            due("pay of no house", x.pay(odd), UNKNOWN);
        }
        due("pay of house 2", x.pay(2), UNKNOWN);
        due("acts", x.count(10), 5);
    }

    private static void blow() {
        SaidMine x = Check.coast("W04H12T035-T015-T115-T215-T135-I10");
        x.say(0, 2);
        due("blow", x.blow(), 27);
        due("goes three", x.thing(0, 0), 3);
        due("goes as that in which it lies", x.thing(1, 0), 3);
        due("stays", x.thing(2, 0), 1);
        due("goes one", x.thing(3, 0), 3);
        due("to the last at most", x.thing(4, 0), 4);
        due("second blow", x.blow(), 11);
        due("at the last place", x.count(7), 27);
        due("third blow", x.blow(), 0);
        due("the blow", x.count(5), 3);
        due("how far it goes is not less", x.thing(0, 1), 3);
        due("acts", x.count(10), 4);
    }

    private static void dawn() {
        SaidMine x = Check.coast("W01H02H01T015-T015-D1");
        x.say(0, 0);
        x.say(0, 1);
        x.say(1, 1);
        x.stone(1);
        due("said", x.count(8), 3);
        due("dawn", x.dawn(), 3);
        due("nothing said", x.count(8), 0);
        due("breaths", x.house(0, 1), 2);
        due("breaths of the other one", x.house(1, 1), 1);
        due("stones stay", x.count(6), 2);
        due("owes still", x.count(9), 2);
        due("dawn of nothing", x.dawn(), 0);
        due("say so again", x.say(0, 0), 1);
        due("acts", x.count(10), 7);
    }

    private static void undo() {
        SaidMine x = Check.coast("W02H02T015-T015-D0");
        x.say(0, 0);
        x.stone(1);
        x.pay(0);
        x.blow();
        x.stone(1);
        x.blow();
        x.dawn();
        due("undo a dawn", x.undo(), 6);
        due("said", x.house(0, 2), 1);
        due("undo a blow", x.undo(), 5);
        due("the blow", x.count(5), 1);
        due("place", x.thing(1, 0), 0);
        due("undo a stone", x.undo(), 4);
        due("stone", x.thing(1, 6), 1);
        due("undo a blow that moved nothing", x.undo(), 3);
        due("the blow", x.count(5), 0);
        due("undo a debt paid", x.undo(), 2);
        due("owes", x.count(9), 1);
        due("undo a stone", x.undo(), 1);
        due("no stone", x.thing(1, 6), 0);
        due("undo what was said", x.undo(), 0);
        due("breaths", x.house(0, 1), 2);
        due("undo nothing", x.undo(), STATE);
        due("refused acts are none", x.say(0, 9) + x.stone(9) + x.pay(9) + x.count(10), -3);
    }

    private static void undoLongRow() {
        SaidMine x = Check.coast("W05T013-");
        for (int i = 1; i <= 40; i++) {
            x.blow();
            due("acts", x.count(10), Math.min(i, 16));
        }
        for (int i = 15; i >= 0; i--) {
            due("undo", x.undo(), i);
            due("the blow", x.count(5), 24 + i);
        }
        due("more is forgotten", x.undo(), STATE);
        due("the blow stays", x.count(5), 24);
        x.stone(0);
        due("on again", x.undo(), 0);
        due("no stone", x.thing(0, 6), 0);
    }

    private static void judge() {
        SaidMine x = Check.coast("W02H01H12T015-T115-T215-");
        due("a blow brings one there", x.judge(1, 90), 0);
        due("said ahead", x.judge(2, 1190), NONE);
        due("a second blow brings another", x.judge(3, 119090), 2);
        due("both said", x.judge(4, 11009090), NONE);
        due("five", x.judge(5, 1110909090L), NONE);
        due("zeros ahead", x.judge(2, 11), NONE);
        due("so already", x.judge(3, 1110 * 100 + 11), 2);
        due("no breath", x.judge(2, 1), 1);
        due("too far", x.judge(1, 2), 0);
        due("no house 2", x.judge(1, 20), 0);
        due("no thing 3", x.judge(1, 13), 0);
        due("nine and one", x.judge(1, 91), 0);
        due("said behind a blow", x.judge(3, 119010), NONE);
        due("not near behind a blow", x.judge(4, 11900000), 3);
        due("nothing is changed", x.count(8) + x.count(5) + x.count(10), 0);
        x.say(0, 0);
        due("what was said counts", x.judge(1, 0), 0);
        due("n 0", x.judge(0, 0), OUTSIDE);
        due("n 6", x.judge(6, 0), OUTSIDE);
        due("row below 0", x.judge(1, -1), OUTSIDE);
        due("row too long", x.judge(1, 100), OUTSIDE);
        due("row of four", x.judge(2, 9999), 0);
        due("row of five", x.judge(2, 10000), OUTSIDE);
        due("row of ten", x.judge(5, 9999999999L), 0);
        due("row of eleven", x.judge(5, 10000000000L), OUTSIDE);
        due("longest row", x.judge(5, Long.MAX_VALUE), OUTSIDE);
        due("lowest row", x.judge(5, Long.MIN_VALUE), OUTSIDE);
        for (int odd : NO_NUMBERS) {
            due("odd n", x.judge(odd, 0), OUTSIDE);
        }
        x = Check.coast("W02T215-T115-");
        x.stone(1);
        due("there already", x.judge(2, 9090), NONE);
    }

    private static void toKeep() {
        SaidMine x = Check.coast("W02H11H11H12T015-T115-T215-T115-I31");
        due("nothing", x.toKeep(0), 0);
        due("one", x.toKeep(1), 1);
        due("by the least", x.by(1, 0), 1);
        due("to no other one", x.by(1, 1), 0);
        due("what lies in another", x.toKeep(8), 1);
        due("by that", x.by(8, 1), 1);
        due("not by itself", x.by(8, 3), 0);
        due("it and that", x.toKeep(10), 1);
        due("all", x.toKeep(15), 3);
        due("all by 0", x.by(15, 0), 1);
        due("all by 1", x.by(15, 1), 2);
        due("all by 2", x.by(15, 2), 4);
        x.say(0, 2);
        due("beside what is said", x.toKeep(7), 2);
        due("first by 0", x.by(7, 0), 2);
        due("first by 1", x.by(7, 1), 4);
        due("first by 2", x.by(7, 2), 0);
        x.stone(0);
        due("beside stones", x.toKeep(7), 1);
        due("not to a stone's", x.by(7, 0), 0);
        due("nothing is changed", x.count(8), 1);
        due("outside", x.toKeep(16), OUTSIDE);
        due("outside below", x.toKeep(-1), OUTSIDE);
        due("outside ahead of unknown", x.by(16, 4), OUTSIDE);
        due("unknown", x.by(15, 4), UNKNOWN);
        for (int odd : NO_NUMBERS) {
            due("odd set", x.toKeep(odd), OUTSIDE);
            due("odd set of by", x.by(odd, 0), OUTSIDE);
            due("odd thing of by", x.by(0, odd), UNKNOWN);
        }
        x = Check.coast("W02H01H12T015-T015-T215-D1");
        due("one that owes is no help", x.toKeep(4), NONE);
        due("by none", x.by(4, 0), NONE);
        due("too few breaths", x.toKeep(3), NONE);
        x.pay(1);
        due("paid", x.toKeep(7), 3);
        due("0 by the one with a breath", x.by(7, 0), 1);
        due("1 by the other", x.by(7, 1), 2);
        x.blow();
        due("too far now", x.toKeep(1), 1);
        due("by the near one", x.by(1, 0), 1);
    }

    private static void toKeepByLaws() {
        SaidMine x = Check.coast("W11H01H01H01T015-T015-");
        x.say(0, 0);
        x.say(1, 0);
        due("two already", x.toKeep(1), NONE);
        due("just one", x.toKeep(2), 1);
        due("by the one that can", x.by(2, 1), 4);
        x = Check.coast("W21H01H01T0151T015-T0151");
        due("its own house", x.by(1, 0), 2);
        due("nobody's", x.toKeep(2), NONE);
        due("two of one house", x.toKeep(5), NONE);
        x = Check.coast("W31H02H01H01T015-T015-");
        due("two each", x.toKeep(3), 4);
        due("first pair", x.by(3, 0), 3);
        due("second pair", x.by(3, 1), 5);
        x.say(2, 0);
        due("one more", x.toKeep(1), 1);
        due("by the first", x.by(1, 0), 1);
        due("one and two", x.toKeep(3), 3);
        due("0 by 0", x.by(3, 0), 1);
        due("1 by 0 and 1", x.by(3, 1), 3);
    }

    private static void most() {
        SaidMine x = Check.coast("W01H01H11T015-T017-T114-T111-I32");
        due("the best two", x.most(), 12);
        x.say(0, 2);
        due("what is said stays said", x.most(), 12);
        x.dawn();
        x.stone(1);
        due("a stone, and two", x.most(), 17);
        x.stone(0);
        due("stones, and one", x.most(), 17);
        due("nothing is changed", x.count(8), 0);
        x = Check.coast("W31H01H01H01T012-T019-");
        due("two for one", x.most(), 9);
        x = Check.coast("W01H04T019-D0");
        due("one that owes keeps nothing", x.most(), 0);
        x = Check.coast("W11H01H01T019-");
        x.say(0, 0);
        due("none need say more", x.most(), 9);
        x.say(1, 0);
        due("too many", x.most(), 0);
        x = Check.coast("W21H02H01T012-T0191T0131T0140");
        due("own ones", x.most(), 13);
        x = Check.coast("W05H04H54H54H54T018-T017-T016-T015-T519-T518-");
        due("all breaths", x.most(), 43);
        due("all breaths to keep", x.toKeep(63), 6);
    }

    private static void fraction(String what, SaidMine x, int house, int above, int below) {
        due("share above: " + what, x.share(house, true), above);
        due("share below: " + what, x.share(house, false), below);
    }

    private static void share() {
        SaidMine x = Check.coast("W01H01H01T019-T014-");
        fraction("first", x, 0, 13, 2);
        fraction("second", x, 1, 13, 2);
        x.say(0, 1);
        fraction("nothing being said", x, 0, 13, 2);
        x = Check.coast("W31H01H01H01T015-");
        fraction("two of three", x, 0, 5, 3);
        x = Check.coast("W31H01H01H01H00T015-");
        fraction("no breath", x, 3, 0, 1);
        fraction("two of three with one more", x, 2, 5, 3);
        x = Check.coast("W01H01H01T019-T014-D1");
        fraction("one that owes", x, 1, 0, 1);
        fraction("the other one", x, 0, 9, 1);
        x.stone(0);
        fraction("a stone", x, 0, 4, 1);
        due("unknown", x.share(2, true), UNKNOWN);
        due("unknown, below", x.share(-1, false), UNKNOWN);
        for (int odd : NO_NUMBERS) {
            due("odd house above", x.share(odd, true), UNKNOWN);
            due("odd house below", x.share(odd, false), UNKNOWN);
        }
        x = Check.coast("W05H01H01H01H01T017-");
        fraction("one of four", x, 3, 7, 4);
        x.stone(0);
        x.blow();
        fraction("kept already", x, 3, 0, 1);
        x.stone(0);
        x.blow();
        x.blow();
        fraction("blown too far", x, 3, 0, 1);
    }

    private static void rests() {
        SaidMine x = Check.coast("W05H00H51H51T015-T011-T010-T015-I30");
        due("either one", x.rests(0, 1, 0), 6);
        due("worth one: not at all, or either", x.rests(0, 1, 1), 7);
        due("worth nothing", x.rests(0, 1, 2), 1);
        due("what lies in another", x.rests(0, 1, 3), 1);
        x.stone(0);
        due("a stone", x.rests(0, 1, 0), 1);
        x.stone(0);
        due("nothing is changed", x.count(8), 0);
        due("one house", x.rests(1, 1, 0), OUTSIDE);
        due("one house unknown", x.rests(3, 3, 0), UNKNOWN);
        due("one house, no thing", x.rests(1, 1, 4), UNKNOWN);
        for (int odd : NO_NUMBERS) {
            due("odd first", x.rests(odd, 0, 0), UNKNOWN);
            due("odd other", x.rests(0, odd, 0), UNKNOWN);
            due("odd thing", x.rests(0, 1, odd), UNKNOWN);
        }
        x = Check.coast("W31H01H01H01T015-T011-");
        due("both or none", x.rests(0, 1, 0), 9);
        x.say(2, 0);
        due("one more is enough", x.rests(0, 1, 0), 6);
        due("the other can", x.rests(2, 1, 0), 4);
        due("the first can", x.rests(1, 2, 0), 2);
        x.say(1, 0);
        due("both have said it", x.rests(1, 2, 0), 1);
        x = Check.coast("W11H01H01H01T015-");
        x.say(2, 0);
        due("just one: none more", x.rests(0, 1, 0), 1);
        x = Check.coast("W01H01H01T012-");
        due("worth two", x.rests(0, 1, 0), 6);
        x = Check.coast("W21H01H01T0151D0");
        due("its own one", x.rests(0, 1, 0), 4);
        x = Check.coast("W01H01H01T015-D0");
        due("one that owes", x.rests(0, 1, 0), 4);
    }

    private static void behindAndQuay() {
        SaidMine x = Check.coast("W05H01T015-T027-T019-T034-I23");
        due("none", x.behind(0, 0), 0);
        due("nine", x.behind(0, 9), 5);
        due("four", x.behind(0, 4), 4);
        due("two", x.behind(1, 2), 4);
        due("in another", x.behind(2, 1), 3);
        due("in another, at last", x.behind(2, 2), 5);
        due("quay 0", x.quay(0), 0);
        due("quay 2", x.quay(2), 13);
        due("quay 3", x.quay(3), 20);
        due("quay 9", x.quay(9), 25);
        x.say(0, 1);
        due("stays", x.behind(1, 9), 0);
        due("quay 9, one stays", x.quay(9), 18);
        x.blow();
        x.blow();
        due("quay now", x.quay(0), 13);
        x.stone(3);
        due("what stays at last is there", x.quay(1), 13);
        due("nothing is changed", x.count(5), 2);
        due("n 10", x.behind(0, 10), OUTSIDE);
        due("n -1", x.behind(0, -1), OUTSIDE);
        due("unknown ahead of outside", x.behind(4, 10), UNKNOWN);
        due("quay 10", x.quay(10), OUTSIDE);
        due("quay -1", x.quay(-1), OUTSIDE);
        for (int odd : NO_NUMBERS) {
            due("odd thing", x.behind(odd, 0), UNKNOWN);
            due("odd n", x.behind(0, odd), OUTSIDE);
            due("odd quay", x.quay(odd), OUTSIDE);
        }
    }

    private static void learn() {
        SaidMine x = new SaidMine();
        for (int odd : NO_NUMBERS) {
            due("odd c", x.learn(odd, false, true), OUTSIDE);
        }
        due("c 5", x.learn(5, true, true), OUTSIDE);
        due("own of none", x.learn(0, true, false), OUTSIDE);
        int[] heldAlone = {0, 3, 7, 9, 13, 9, 13, 9, 13};
        for (int i = 0; i < 9; i++) {
            int c = (i + 1) / 2;
            boolean own = i > 0 && i % 2 == 0;
            due("learn " + i, x.learn(c, own, true), 1);
            due("laws that hold " + i, x.laws(), heldAlone[i]);
            due("unlearn", x.unlearn(), 1);
            due("learn not " + i, x.learn(c, own, false), 1);
            due("laws that do not " + i, x.laws(), 15 & ~heldAlone[i]);
            x.unlearn();
        }
        for (int i = 1; i <= 6; i++) {
            due("learn", x.learn(4, true, true), i);
        }
        due("full", x.learn(4, true, true), FULL);
        due("outside ahead of full", x.learn(0, true, true), OUTSIDE);
        due("lessons", x.count(11), 6);
        due("laws", x.laws(), 13);
        due("unlearn six", x.unlearn(), 6);
        due("unlearn none", x.unlearn(), 0);
        due("all laws", x.laws(), 15);
    }

    private static void next() {
        SaidMine x = new SaidMine();
        due("next of all", x.next(), 10);
        x.learn(1, false, true);
        due("of 0 and 1", x.next(), 20);
        x.learn(2, false, true);
        due("of one", x.next(), 0);
        x.unlearn();
        x.learn(1, true, true);
        due("of 0, 1, 2", x.next(), 10);
        x.unlearn();
        x.learn(1, false, false);
        due("of 2 and 3", x.next(), 11);
        x.unlearn();
        x.learn(2, true, true);
        due("of 0, 2, 3", x.next(), 10);
        x.learn(1, true, true);
        due("of 0 and 2", x.next(), 10);
        x.unlearn();
        x.learn(2, false, true);
        due("of 0 and 3", x.next(), 10);
        x.learn(2, false, false);
        due("no law", x.laws(), 0);
        due("next of none", x.next(), NONE);
    }

    private static void see() {
        SaidMine x = Check.coast("W01T015-T115-");
        due("see", x.see(0, true), 1);
        due("see the contrary", x.see(0, false), 2);
        due("no thing 2", x.see(2, true), UNKNOWN);
        for (int odd : NO_NUMBERS) {
            due("odd thing", x.see(odd, true), UNKNOWN);
        }
        for (int i = 3; i <= 6; i++) {
            due("see", x.see(1, true), i);
        }
        due("full", x.see(0, true), FULL);
        due("unknown ahead of full", x.see(2, true), UNKNOWN);
        due("seen", x.count(12), 6);
        due("unsee", x.unsee(), 6);
        due("unsee none", x.unsee(), 0);
        due("seen none", x.count(12), 0);
    }

    private static void heard() {
        SaidMine x = Check.coast("W02H02H11T015-T015-T115-T215-");
        due("all sets", x.heard(0, 0, 0), 7);
        due("in all", x.heard(0, 0, 1), 0);
        due("in none", x.heard(0, 0, 2), 8);
        x.see(0, false);
        due("said 0", x.heard(0, 2, 0), 3);
        due("0 in all", x.heard(0, 2, 1), 1);
        due("too few blows to tell", x.heard(0, 1, 0), 7);
        x.see(1, true);
        due("not 1", x.heard(0, 2, 0), 2);
        due("1 and 3 in none", x.heard(0, 2, 2), 10);
        x.say(0, 1);
        due("in place of what it said", x.heard(0, 2, 0), 2);
        x.say(1, 1);
        due("what the other one said is as it is", x.heard(0, 2, 0), 0);
        due("in all of none", x.heard(0, 2, 1), NONE);
        due("in none of none", x.heard(0, 2, 2), NONE);
        due("of the other one", x.heard(1, 2, 0), 0);
        due("nothing is changed", x.house(0, 2), 2);
        x.unsee();
        due("the other one's sets", x.heard(1, 9, 0), 5);
        x.see(3, false);
        due("there already", x.heard(1, 0, 0), 0);
        Check.write(x, "W02H02T015-");
        x.coast();
        due("seen of no thing any more", x.heard(0, 9, 0), 2);
        due("no such house", x.heard(1, 0, 0), UNKNOWN);
        due("unknown ahead of outside", x.heard(1, 10, 3), UNKNOWN);
        due("n 10", x.heard(0, 10, 0), OUTSIDE);
        due("what 3", x.heard(0, 0, 3), OUTSIDE);
        for (int odd : NO_NUMBERS) {
            due("odd house", x.heard(odd, 0, 0), UNKNOWN);
            due("odd n", x.heard(0, odd, 0), OUTSIDE);
            due("odd what", x.heard(0, 0, odd), OUTSIDE);
        }
        x = Check.coast("W01H02T015-D0");
        x.see(0, false);
        due("one that owes", x.heard(0, 1, 0), 0);
    }

    private static void chance(SaidMine x, int thing, int tenths, int above, int below) {
        due("forgotten above: " + thing + ", " + tenths, x.forgotten(thing, tenths, true), above);
        due("forgotten below: " + thing + ", " + tenths, x.forgotten(thing, tenths, false), below);
    }

    private static void forgotten() {
        SaidMine x = Check.coast("W01H04H04H04T0151T015-T015-I20D2");
        chance(x, 0, 3, 0, 1);
        x.say(0, 0);
        x.say(1, 0);
        x.say(2, 0);
        chance(x, 0, 3, 91, 100);
        chance(x, 0, 0, 1, 1);
        chance(x, 0, 10, 0, 1);
        chance(x, 0, 5, 3, 4);
        chance(x, 2, 5, 3, 4);
        x.say(0, 2);
        chance(x, 2, 5, 3, 4);
        x.pay(2);
        chance(x, 0, 5, 7, 8);
        x.stone(0);
        chance(x, 0, 10, 1, 1);
        chance(x, 2, 10, 1, 1);
        x.stone(2);
        x.stone(0);
        chance(x, 2, 10, 0, 1);
        due("unknown", x.forgotten(3, 11, true), UNKNOWN);
        due("x 11", x.forgotten(0, 11, true), OUTSIDE);
        due("x -1", x.forgotten(0, -1, false), OUTSIDE);
        for (int odd : NO_NUMBERS) {
            due("odd thing", x.forgotten(odd, 0, true), UNKNOWN);
            due("odd x", x.forgotten(0, odd, false), OUTSIDE);
        }
        int[][] byLaw = {{624, 625}, {16, 625}, {4, 5}, {608, 625}};
        for (int law = 0; law < 4; law++) {
            x = Check.coast("W" + law + "1H01H01H01H01T0151");
            for (int house = 0; house < 4; house++) {
                x.say(house, 0);
            }
            chance(x, 0, 2, byLaw[law][0], byLaw[law][1]);
        }
    }

    private static void seedAndWinds() {
        SaidMine x = Check.coast("W05T015-T027-T036-T011-T022-T033-");
        due("seed", x.seed(Long.MIN_VALUE), 0);
        due("seed was", x.seed(5), Long.MIN_VALUE);
        due("m 0", x.winds(0), OUTSIDE);
        due("m 21", x.winds(21), OUTSIDE);
        for (int odd : NO_NUMBERS) {
            due("odd m", x.winds(odd), OUTSIDE);
        }
        due("the seed is as it was", x.seed(5), 5);
        for (int m = 1; m <= 20; m++) {
            for (int stones = 0; stones < 64; stones += 21) {
                winds(m, 1000 * m + stones, stones);
            }
        }
        x.winds(20);
        due("no blow", x.count(5) + x.count(10) + x.count(6) + x.count(7), 0);
        due("nobody moved", x.thing(2, 0), 0);
    }

    private static void winds(int m, long from, int stones) {
        SaidMine x = Check.coast("W05T015-T027-T036-T011-T022-T033-");
        int[] pace = {1, 2, 3, 1, 2, 3};
        int[] worth = {5, 7, 6, 1, 2, 3};
        int[] place = new int[6];
        for (int t = 0; t < 6; t++) {
            due("stone", (stones >> t & 1) == 1 ? x.stone(t) : 1, 1);
        }
        long seed = from;
        int lying = stones;
        for (int i = 0; i < m; i++) {
            seed = seed * 6364136223846793005L + 1442695040888963407L;
            lying ^= 63 & 1 << (int) (seed >>> 33 & 7);
            for (int t = 0; t < 6; t++) {
                place[t] = (lying >> t & 1) == 1 ? place[t] : Math.min(5, place[t] + pace[t]);
            }
        }
        int quay = 0;
        for (int t = 0; t < 6; t++) {
            quay += place[t] == 5 ? worth[t] : 0;
        }
        x.seed(from);
        due("winds " + m, x.winds(m), quay);
        due("the seed goes on", x.seed(9), seed);
        due("stones are as they were", x.count(6), stones);
    }

    private static void slots() {
        SaidMine x = Check.coast("W03H02T015-T015-D0");
        due("none kept", x.again(0), STATE);
        x.say(0, 0);
        x.stone(1);
        x.blow();
        due("keep", x.keep(0), 1);
        due("keep is no act", x.count(10), 3);
        x.pay(0);
        x.dawn();
        x.stone(1);
        x.blow();
        due("keep the other", x.keep(1), 2);
        due("again", x.again(0), 1);
        due("the row is empty", x.count(10), 0);
        due("undo", x.undo(), STATE);
        due("said", x.house(0, 2), 1);
        due("stones", x.thing(1, 6), 1);
        due("owes", x.count(9), 1);
        due("places", 10 * x.thing(0, 0) + x.thing(1, 0), 10);
        x.blow();
        due("again once more", x.again(0), 1);
        due("the blow", x.count(5), 1);
        due("the other", x.again(1), 2);
        due("places then", 10 * x.thing(0, 0) + x.thing(1, 0), 21);
        due("owes then", x.count(9), 0);
        due("kept anew", x.keep(0), 2);
        due("again anew", x.again(0), 2);
        for (int odd : NO_NUMBERS) {
            due("odd slot to keep", x.keep(odd), UNKNOWN);
            due("odd slot again", x.again(odd), UNKNOWN);
        }
        due("slot 2", x.keep(2), UNKNOWN);
        due("slot 2 again", x.again(2), UNKNOWN);
    }

    private static void count() {
        SaidMine x = Check.coast("W34H12H02T0150T315-T415-T015-I30D1");
        due("at last ahead of a blow", x.count(7), 4);
        x.say(0, 0);
        x.say(1, 0);
        x.stone(1);
        x.learn(0, false, false);
        x.see(0, true);
        x.see(1, true);
        x.blow();
        int[] counts = {34, 3, 4, 2, 4, 1, 2, 4, 2, 2, 4, 1, 2};
        for (int what = 0; what < counts.length; what++) {
            due("count " + what, x.count(what), counts[what]);
        }
        due("count 13", x.count(13), OUTSIDE);
        due("count -1", x.count(-1), OUTSIDE);
        for (int odd : NO_NUMBERS) {
            due("odd count", x.count(odd), OUTSIDE);
        }
    }
}
