import java.util.ArrayList;
import java.util.List;
import java.util.function.Supplier;
import java.util.function.ToLongFunction;

/** Each refused call: what it answers, of several refusals the first, and that it changes nothing. */
final class RefusalBounds {
    private static final int UNKNOWN = -1, OUTSIDE = -2, STATE = -3, FULL = -4;
    private static final int MIN = Integer.MIN_VALUE, MAX = Integer.MAX_VALUE;

    private record Call(String name, long due, ToLongFunction<SaidMine> call) { }

    private final Sentences due;

    RefusalBounds(Sentences due) {
        this.due = due;
    }

    void all() {
        emptyChangesNothing();
        busyChangesNothing();
        fullChangesNothing();
        firstThatACallNames();
        likewiseAboveAndBelow();
        askingChangesNothing();
    }

    private static SaidMine empty() {
        return new SaidMine();
    }

    /** Two houses (the second has no breath, and owes), three things (the last one in the first, the second far). */
    private static SaidMine busy() {
        SaidMine x = Check.coast("W23H02H10T013-T3291T013-I02D1");
        x.say(0, 0);
        x.stone(1);
        x.keep(0);
        x.blow();
        x.learn(2, true, true);
        x.see(1, false);
        x.seed(99);
        return x;
    }

    /** Letters, lessons, acts, and what is seen are as many as can be; the text has a fault. */
    private static SaidMine full() {
        SaidMine x = Check.coast("W11H01H01T013-T013-T013-");
        x.keep(1);
        for (int i = 0; i < 6; i++) {
            x.learn(1 + i % 2, false, i % 2 == 0);
            x.see(i % 3, false);
        }
        x.say(0, 0);
        x.say(1, 1);
        for (int i = 0; i < 15; i++) {
            x.stone(i % 3);
        }
        for (int letters = 24; letters < 56; letters++) {
            x.write('Z');
        }
        return x;
    }

    private static List<Call> numbersRefused() {
        List<Call> calls = new ArrayList<>();
        for (int odd : new int[] {MIN, -1, 256, MAX}) {
            calls.add(new Call("write(" + odd + ")", OUTSIDE, x -> x.write(odd)));
        }
        for (int odd : new int[] {MIN, -9, -1, 4, 6, 64, MAX}) {
            calls.add(new Call("house(" + odd + ", 0)", UNKNOWN, x -> x.house(odd, 0)));
            calls.add(new Call("say(" + odd + ", 0)", UNKNOWN, x -> x.say(odd, 0)));
            calls.add(new Call("pay(" + odd + ")", UNKNOWN, x -> x.pay(odd)));
            calls.add(new Call("share(" + odd + ", true)", UNKNOWN, x -> x.share(odd, true)));
            calls.add(new Call("rests(" + odd + ", 0, 0)", UNKNOWN, x -> x.rests(odd, 0, 0)));
            calls.add(new Call("rests(0, " + odd + ", 0)", UNKNOWN, x -> x.rests(0, odd, 0)));
            calls.add(new Call("heard(" + odd + ", 0, 0)", UNKNOWN, x -> x.heard(odd, 0, 0)));
            calls.add(new Call("keep(" + odd + ")", UNKNOWN, x -> x.keep(odd)));
            calls.add(new Call("again(" + odd + ")", UNKNOWN, x -> x.again(odd)));
        }
        for (int odd : new int[] {MIN, -9, -1, 6, 7, 64, MAX}) {
            calls.add(new Call("thing(" + odd + ", 0)", UNKNOWN, x -> x.thing(odd, 0)));
            calls.add(new Call("say(0, " + odd + ")", UNKNOWN, x -> x.say(0, odd)));
            calls.add(new Call("stone(" + odd + ")", UNKNOWN, x -> x.stone(odd)));
            calls.add(new Call("by(0, " + odd + ")", UNKNOWN, x -> x.by(0, odd)));
            calls.add(new Call("rests(0, 1, " + odd + ")", UNKNOWN, x -> x.rests(0, 1, odd)));
            calls.add(new Call("behind(" + odd + ", 0)", UNKNOWN, x -> x.behind(odd, 0)));
            calls.add(new Call("see(" + odd + ", true)", UNKNOWN, x -> x.see(odd, true)));
            calls.add(new Call("forgotten(" + odd + ", 0, true)", UNKNOWN, x -> x.forgotten(odd, 0, true)));
        }
        for (int odd : new int[] {MIN, -1, 64, 1 << 16, MAX}) {
            calls.add(new Call("toKeep(" + odd + ")", OUTSIDE, x -> x.toKeep(odd)));
            calls.add(new Call("by(" + odd + ", 0)", OUTSIDE, x -> x.by(odd, 0)));
            calls.add(new Call("quay(" + odd + ")", OUTSIDE, x -> x.quay(odd)));
            calls.add(new Call("learn(" + odd + ", false, true)", OUTSIDE, x -> x.learn(odd, false, true)));
            calls.add(new Call("winds(" + odd + ")", OUTSIDE, x -> x.winds(odd)));
            calls.add(new Call("count(" + odd + ")", OUTSIDE, x -> x.count(odd)));
            calls.add(new Call("judge(" + odd + ", 0)", OUTSIDE, x -> x.judge(odd, 0)));
        }
        calls.add(new Call("judge(0, 0)", OUTSIDE, x -> x.judge(0, 0)));
        calls.add(new Call("judge(6, 0)", OUTSIDE, x -> x.judge(6, 0)));
        calls.add(new Call("judge(1, -1)", OUTSIDE, x -> x.judge(1, -1)));
        calls.add(new Call("judge(1, 100)", OUTSIDE, x -> x.judge(1, 100)));
        calls.add(new Call("judge(5, 10000000000)", OUTSIDE, x -> x.judge(5, 10000000000L)));
        calls.add(new Call("quay(10)", OUTSIDE, x -> x.quay(10)));
        calls.add(new Call("learn(5, false, true)", OUTSIDE, x -> x.learn(5, false, true)));
        calls.add(new Call("learn(0, true, true)", OUTSIDE, x -> x.learn(0, true, true)));
        calls.add(new Call("winds(0)", OUTSIDE, x -> x.winds(0)));
        calls.add(new Call("winds(21)", OUTSIDE, x -> x.winds(21)));
        calls.add(new Call("keep(2)", UNKNOWN, x -> x.keep(2)));
        calls.add(new Call("again(2)", UNKNOWN, x -> x.again(2)));
        calls.add(new Call("count(13)", OUTSIDE, x -> x.count(13)));
        return calls;
    }

    /** What is refused where there are two houses and three things. */
    private static List<Call> refusedOfThree() {
        List<Call> calls = new ArrayList<>();
        for (int odd : new int[] {MIN, -1, 10, MAX}) {
            calls.add(new Call("house(0, " + odd + ")", OUTSIDE, x -> x.house(0, odd)));
            calls.add(new Call("thing(0, " + odd + ")", OUTSIDE, x -> x.thing(0, odd)));
            calls.add(new Call("behind(0, " + odd + ")", OUTSIDE, x -> x.behind(0, odd)));
            calls.add(new Call("heard(0, " + odd + ", 0)", OUTSIDE, x -> x.heard(0, odd, 0)));
            calls.add(new Call("heard(0, 0, " + odd + ")", OUTSIDE, x -> x.heard(0, 0, odd)));
        }
        calls.add(new Call("house(2, 0)", UNKNOWN, x -> x.house(2, 0)));
        calls.add(new Call("house(0, 5)", OUTSIDE, x -> x.house(0, 5)));
        calls.add(new Call("thing(3, 0)", UNKNOWN, x -> x.thing(3, 0)));
        calls.add(new Call("thing(0, 8)", OUTSIDE, x -> x.thing(0, 8)));
        calls.add(new Call("say(2, 0)", UNKNOWN, x -> x.say(2, 0)));
        calls.add(new Call("say(0, 3)", UNKNOWN, x -> x.say(0, 3)));
        calls.add(new Call("say(0, 0)", STATE, x -> x.say(0, 0)));
        calls.add(new Call("stone(3)", UNKNOWN, x -> x.stone(3)));
        calls.add(new Call("pay(2)", UNKNOWN, x -> x.pay(2)));
        calls.add(new Call("pay(0)", STATE, x -> x.pay(0)));
        calls.add(new Call("toKeep(8)", OUTSIDE, x -> x.toKeep(8)));
        calls.add(new Call("by(8, 0)", OUTSIDE, x -> x.by(8, 0)));
        calls.add(new Call("by(0, 3)", UNKNOWN, x -> x.by(0, 3)));
        calls.add(new Call("share(2, false)", UNKNOWN, x -> x.share(2, false)));
        calls.add(new Call("rests(0, 2, 0)", UNKNOWN, x -> x.rests(0, 2, 0)));
        calls.add(new Call("rests(1, 0, 3)", UNKNOWN, x -> x.rests(1, 0, 3)));
        calls.add(new Call("rests(1, 1, 0)", OUTSIDE, x -> x.rests(1, 1, 0)));
        calls.add(new Call("behind(3, 0)", UNKNOWN, x -> x.behind(3, 0)));
        calls.add(new Call("see(3, false)", UNKNOWN, x -> x.see(3, false)));
        calls.add(new Call("heard(2, 0, 0)", UNKNOWN, x -> x.heard(2, 0, 0)));
        calls.add(new Call("heard(0, 0, 3)", OUTSIDE, x -> x.heard(0, 0, 3)));
        calls.add(new Call("forgotten(3, 0, true)", UNKNOWN, x -> x.forgotten(3, 0, true)));
        calls.add(new Call("forgotten(0, 11, true)", OUTSIDE, x -> x.forgotten(0, 11, true)));
        calls.add(new Call("forgotten(0, -1, false)", OUTSIDE, x -> x.forgotten(0, -1, false)));
        return calls;
    }

    private void refused(String on, Supplier<SaidMine> made, List<Call> calls) {
        String was = Remains.of(made.get());
        for (Call c : calls) {
            SaidMine x = made.get();
            due.due(c.name() + on, c.call().applyAsLong(x), c.due());
            due.due(c.name() + on + " again", c.call().applyAsLong(x), c.due());
            due.isTrue(c.name() + on + " changes nothing", was.equals(Remains.of(x)));
        }
    }

    private void emptyChangesNothing() {
        due.of("The document", "UNKNOWN (there is no such HOUSE, THING, SLOT), OUTSIDE (another number is not as told), STATE (as told), FULL.");
        List<Call> calls = numbersRefused();
        calls.add(new Call("coast()", STATE, x -> x.coast()));
        calls.add(new Call("undo()", STATE, x -> x.undo()));
        calls.add(new Call("again(0)", STATE, x -> x.again(0)));
        calls.add(new Call("again(1)", STATE, x -> x.again(1)));
        calls.add(new Call("toKeep(1)", OUTSIDE, x -> x.toKeep(1)));
        calls.add(new Call("by(1, 0)", OUTSIDE, x -> x.by(1, 0)));
        calls.add(new Call("house(0, 0)", UNKNOWN, x -> x.house(0, 0)));
        calls.add(new Call("thing(0, 0)", UNKNOWN, x -> x.thing(0, 0)));
        refused(" of a new object", RefusalBounds::empty, calls);
    }

    private void busyChangesNothing() {
        due.of("The document", "What is refused changes nothing.");
        List<Call> calls = numbersRefused();
        calls.addAll(refusedOfThree());
        calls.add(new Call("say(0, 1)", OUTSIDE, x -> x.say(0, 1)));
        calls.add(new Call("say(1, 0)", STATE, x -> x.say(1, 0)));
        calls.add(new Call("again(1)", STATE, x -> x.again(1)));
        refused("", RefusalBounds::busy, calls);
        refused(" behind a letter that is a fault", () -> {
            SaidMine x = busy();
            x.write('Q');
            return x;
        }, List.of(new Call("coast()", STATE, x -> x.coast())));
        refused(" of another text, with a fault", () -> {
            SaidMine x = busy();
            Check.write(x, "W35H53H54T535-T5351T53");
            return x;
        }, List.of(new Call("coast()", STATE, x -> x.coast()), new Call("fault()", 22, x -> x.fault())));
        refused(" when no act is left", () -> {
            SaidMine x = busy();
            x.again(0);
            return x;
        }, List.of(new Call("undo()", STATE, x -> x.undo())));
    }

    private void fullChangesNothing() {
        due.of("The document", "STATE (as told), FULL. What is refused changes nothing.");
        List<Call> calls = numbersRefused();
        calls.addAll(refusedOfThree());
        calls.add(new Call("coast()", STATE, x -> x.coast()));
        calls.add(new Call("write('W')", FULL, x -> x.write('W')));
        calls.add(new Call("write(0)", FULL, x -> x.write(0)));
        calls.add(new Call("write(255)", FULL, x -> x.write(255)));
        calls.add(new Call("learn(0, false, true)", FULL, x -> x.learn(0, false, true)));
        calls.add(new Call("learn(4, true, false)", FULL, x -> x.learn(4, true, false)));
        calls.add(new Call("see(0, true)", FULL, x -> x.see(0, true)));
        calls.add(new Call("see(2, false)", FULL, x -> x.see(2, false)));
        calls.add(new Call("say(0, 1)", STATE, x -> x.say(0, 1)));
        calls.add(new Call("again(0)", STATE, x -> x.again(0)));
        refused(" when full", RefusalBounds::full, calls);
    }

    private void firstThatACallNames() {
        due.of("The document", "REFUSALS, of several the first that a call names");
        SaidMine x = full();
        due.due("write: OUTSIDE ahead of FULL", x.write(256), OUTSIDE);
        due.due("house: UNKNOWN ahead of OUTSIDE", x.house(2, 5), UNKNOWN);
        due.due("thing: UNKNOWN ahead of OUTSIDE", x.thing(3, 8), UNKNOWN);
        due.due("by: OUTSIDE ahead of UNKNOWN", x.by(8, 3), OUTSIDE);
        due.due("rests: UNKNOWN ahead of OUTSIDE", x.rests(2, 2, 0), UNKNOWN);
        due.due("rests: no thing ahead of one house", x.rests(0, 0, 3), UNKNOWN);
        due.due("behind: UNKNOWN ahead of OUTSIDE", x.behind(3, 10), UNKNOWN);
        due.due("learn: no c ahead of FULL", x.learn(5, true, true), OUTSIDE);
        due.due("learn: one of none ahead of FULL", x.learn(0, true, true), OUTSIDE);
        due.due("see: UNKNOWN ahead of FULL", x.see(3, true), UNKNOWN);
        due.due("heard: UNKNOWN ahead of OUTSIDE", x.heard(2, 10, 3), UNKNOWN);
        due.due("forgotten: UNKNOWN ahead of OUTSIDE", x.forgotten(3, 11, true), UNKNOWN);
        due.due("again: UNKNOWN ahead of STATE", x.again(2), UNKNOWN);
        x = busy();
        due.due("say: no house, and not near", x.say(2, 1), UNKNOWN);
        due.due("say: no thing, no breath", x.say(1, 3), UNKNOWN);
        due.due("say: not near ahead of no breath", x.say(1, 1), OUTSIDE);
        x = Check.coast("W05H01T013-D0");
        x.say(0, 0);
        x.blow();
        x.blow();
        due.due("say: not near ahead of so already, and no breath", x.say(0, 0), OUTSIDE);
    }

    private void likewiseAboveAndBelow() {
        due.of("The document", "refusals of them are told likewise");
        SaidMine x = busy();
        for (int i = 0; i < 2; i++) {
            boolean upper = i == 0;
            due.due("share(2, " + upper + ")", x.share(2, upper), UNKNOWN);
            due.due("share(-1, " + upper + ")", x.share(-1, upper), UNKNOWN);
            due.due("forgotten(3, 0, " + upper + ")", x.forgotten(3, 0, upper), UNKNOWN);
            due.due("forgotten(-1, 11, " + upper + ")", x.forgotten(-1, 11, upper), UNKNOWN);
            due.due("forgotten(0, 11, " + upper + ")", x.forgotten(0, 11, upper), OUTSIDE);
            due.due("forgotten(0, -1, " + upper + ")", x.forgotten(0, -1, upper), OUTSIDE);
        }
    }

    private static List<Call> asked() {
        List<Call> calls = new ArrayList<>();
        calls.add(new Call("judge(3, 29090)", 0, x -> x.judge(3, 29090)));
        calls.add(new Call("judge(5, 9090909090)", 0, x -> x.judge(5, 9090909090L)));
        for (int set = 0; set < 8; set++) {
            int things = set;
            calls.add(new Call("toKeep(" + set + ")", 0, x -> x.toKeep(things)));
            calls.add(new Call("by(" + set + ", 1)", 0, x -> x.by(things, 1)));
        }
        calls.add(new Call("most()", 0, x -> x.most()));
        calls.add(new Call("share(0, true)", 0, x -> x.share(0, true)));
        calls.add(new Call("share(1, false)", 0, x -> x.share(1, false)));
        for (int thing = 0; thing < 3; thing++) {
            int t = thing;
            calls.add(new Call("rests(0, 1, " + t + ")", 0, x -> x.rests(0, 1, t)));
            calls.add(new Call("behind(" + t + ", 9)", 0, x -> x.behind(t, 9)));
            calls.add(new Call("forgotten(" + t + ", 5, true)", 0, x -> x.forgotten(t, 5, true)));
        }
        calls.add(new Call("quay(9)", 0, x -> x.quay(9)));
        calls.add(new Call("laws()", 0, x -> x.laws()));
        calls.add(new Call("next()", 0, x -> x.next()));
        for (int what = 0; what < 3; what++) {
            int w = what;
            calls.add(new Call("heard(0, 9, " + w + ")", 0, x -> x.heard(0, 9, w)));
        }
        calls.add(new Call("fault()", 0, x -> x.fault()));
        calls.add(new Call("count(6)", 0, x -> x.count(6)));
        calls.add(new Call("house(0, 4)", 0, x -> x.house(0, 4)));
        calls.add(new Call("thing(0, 7)", 0, x -> x.thing(0, 7)));
        return calls;
    }

    private void askingChangesNothing() {
        due.of("The document", "In what follows nothing is changed.");
        for (Supplier<SaidMine> made : List.<Supplier<SaidMine>>of(RefusalBounds::busy, RefusalBounds::full)) {
            String was = Remains.of(made.get());
            for (Call c : asked()) {
                SaidMine x = made.get();
                long first = c.call().applyAsLong(x);
                due.due(c.name() + " asked again", c.call().applyAsLong(x), first);
                due.isTrue(c.name() + " changes nothing", was.equals(Remains.of(x)));
            }
        }
    }
}
