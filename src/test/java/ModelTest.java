import java.util.ArrayDeque;
import java.util.Random;

/** Runs of calls drawn by a seed, each answer compared with the model's. */
public final class ModelTest {
    private static final int RUNS = 3000;
    private static final int CALLS = 300;
    private static final int[] ODD = {-1, -2, -9, 4, 5, 6, 7, 9, 10, 13, 64, 256, Integer.MIN_VALUE, Integer.MAX_VALUE};

    private final Check check;
    private final Random random;
    private final int run;
    private final SaidMine x = new SaidMine();
    private final Model m = new Model();
    private final ArrayDeque<String> calls = new ArrayDeque<>();
    private long told;

    private ModelTest(int run, Check check) {
        this.run = run;
        this.random = new Random(run);
        this.check = check;
    }

    public static void main(String[] args) {
        Check check = new Check();
        long told = 0;
        for (int run = 0; run < RUNS && check.wrong() == 0; run++) {
            ModelTest test = new ModelTest(run, check);
            test.go();
            told += test.told;
        }
        System.out.println(told + " answers compared");
        check.end("ModelTest");
    }

    private void go() {
        coast(CoastWords.coast(random));
        for (int i = 0; i < CALLS && check.wrong() == 0; i++) {
            call(random.nextInt(100));
        }
    }

    private void same(String call, long got, long want) {
        calls.addLast(call);
        if (want == Model.UNTOLD) {
            return;
        }
        told++;
        check.due("run " + run + ": " + call, got, want);
        if (got != want) {
            System.out.println(String.join("; ", calls));
        }
    }

    private void coast(String text) {
        same("wipe()", x.wipe(), m.wipe());
        for (int i = 0; i < text.length(); i++) {
            int letter = text.charAt(i);
            same("write(" + letter + ")", x.write(letter), m.write(letter));
        }
        same("fault() of " + text, x.fault(), m.fault());
        same("coast()", x.coast(), m.coast());
        same("fault()", x.fault(), m.fault());
    }

    private int number(int below) {
        return random.nextInt(40) == 0 ? ODD[random.nextInt(ODD.length)] : random.nextInt(Math.max(below, 1));
    }

    private int house() {
        return number(m.count(3));
    }

    private int thing() {
        return number(m.count(4));
    }

    private int set() {
        return number(1 << m.count(4));
    }

    private void call(int pick) {
        if (pick < 45) {
            act(pick);
        } else if (pick < 75) {
            look(pick);
        } else {
            rest(pick);
        }
        if (random.nextInt(20) == 0) {
            all();
        }
    }

    private void act(int pick) {
        int h = house(), t = thing();
        if (pick < 20) {
            same("say(" + h + "," + t + ")", x.say(h, t), m.say(h, t));
        } else if (pick < 24) {
            same("stone(" + t + ")", x.stone(t), m.stone(t));
        } else if (pick < 27) {
            same("pay(" + h + ")", x.pay(h), m.pay(h));
        } else if (pick < 31) {
            same("blow()", x.blow(), m.blow());
        } else if (pick < 33) {
            same("dawn()", x.dawn(), m.dawn());
        } else if (pick < 39) {
            same("undo()", x.undo(), m.undo());
        } else {
            int n = number(6);
            long row = row(n);
            same("judge(" + n + "," + row + ")", x.judge(n, row), m.judge(n, row));
        }
    }

    private long row(int n) {
        long row = 0;
        for (int i = 0; i < Math.min(n, 6); i++) {
            int two = random.nextInt(3) == 0 ? 90 : 10 * random.nextInt(1 + m.count(3)) + random.nextInt(1 + m.count(4));
            row = 100 * row + (random.nextInt(30) == 0 ? random.nextInt(100) : two);
        }
        int odd = random.nextInt(40);
        return odd == 0 ? -row : odd == 1 ? row * 100 : odd == 2 ? random.nextLong() : row;
    }

    private void look(int pick) {
        int h = house(), t = thing(), set = set();
        boolean upper = random.nextBoolean();
        if (pick < 49) {
            same("toKeep(" + set + ")", x.toKeep(set), m.toKeep(set));
        } else if (pick < 55) {
            same("by(" + set + "," + t + ")", x.by(set, t), m.by(set, t));
        } else if (pick < 57) {
            same("most()", x.most(), m.most());
        } else if (pick < 59) {
            same("share(" + h + "," + upper + ")", x.share(h, upper), m.share(h, upper));
        } else if (pick < 65) {
            int other = house();
            same("rests(" + h + "," + other + "," + t + ")", x.rests(h, other, t), m.rests(h, other, t));
        } else if (pick < 68) {
            int n = number(10);
            same("behind(" + t + "," + n + ")", x.behind(t, n), m.behind(t, n));
        } else if (pick < 70) {
            int n = number(10);
            same("quay(" + n + ")", x.quay(n), m.quay(n));
        } else {
            int tenths = number(11);
            same("forgotten(" + t + "," + tenths + "," + upper + ")", x.forgotten(t, tenths, upper), m.forgotten(t, tenths, upper));
        }
    }

    private void rest(int pick) {
        int h = house(), t = thing();
        boolean a = random.nextBoolean(), b = random.nextBoolean();
        if (pick < 79) {
            int n = number(10), what = number(3);
            same("heard(" + h + "," + n + "," + what + ")", x.heard(h, n, what), m.heard(h, n, what));
        } else if (pick < 82) {
            same("see(" + t + "," + a + ")", x.see(t, a), m.see(t, a));
        } else if (pick < 85) {
            int c = number(5);
            same("learn(" + c + "," + a + "," + b + ")", x.learn(c, a, b), m.learn(c, a, b));
        } else if (pick < 88) {
            same("laws()", x.laws(), m.laws());
            same("next()", x.next(), m.next());
        } else if (pick < 90) {
            same("unlearn()", a ? x.unlearn() : 0, a ? m.unlearn() : 0);
            same("unsee()", b ? x.unsee() : 0, b ? m.unsee() : 0);
        } else if (pick < 93) {
            int n = number(21);
            same("winds(" + n + ")", x.winds(n), m.winds(n));
        } else if (pick < 95) {
            long v = random.nextLong();
            same("seed(" + v + ")", x.seed(v), m.seed(v));
        } else if (pick < 97) {
            int slot = number(2);
            same("keep(" + slot + ")", x.keep(slot), m.keep(slot));
        } else if (pick < 99) {
            int slot = number(2);
            same("again(" + slot + ")", x.again(slot), m.again(slot));
        } else {
            coast(random.nextInt(3) == 0 ? CoastWords.mangled(random) : CoastWords.coast(random));
        }
    }

    /** Everything that can be looked at. */
    private void all() {
        for (int what = -1; what <= 13; what++) {
            same("count(" + what + ")", x.count(what), m.count(what));
        }
        for (int h = -1; h <= m.count(3); h++) {
            for (int what = -1; what <= 5; what++) {
                same("house(" + h + "," + what + ")", x.house(h, what), m.house(h, what));
            }
        }
        for (int t = -1; t <= m.count(4); t++) {
            for (int what = -1; what <= 8; what++) {
                same("thing(" + t + "," + what + ")", x.thing(t, what), m.thing(t, what));
            }
        }
    }
}

/** Texts drawn by chance. */
final class CoastWords {
    private static final String LETTERS = "WHTID0123456789-x";

    private CoastWords() { }

    static String coast(Random random) {
        int law = random.nextInt(4), last = 1 + random.nextInt(5);
        int houses = random.nextInt(5), things = random.nextInt(7);
        int spread = 1 + random.nextInt(last + 1);
        StringBuilder s = new StringBuilder("W").append(law).append(last);
        for (int i = 0; i < houses; i++) {
            s.append('H').append(random.nextInt(spread)).append(random.nextInt(5));
        }
        for (int i = 0; i < things; i++) {
            int owner = random.nextInt(houses + 1);
            s.append('T').append(random.nextInt(spread)).append(1 + random.nextInt(3)).append(random.nextInt(10))
                .append(owner == houses ? "-" : "" + owner);
        }
        Model probe = new Model();
        for (int i = 0; i < 8; i++) {
            String part = random.nextInt(3) == 0 ? "D" + random.nextInt(4) : "I" + random.nextInt(6) + random.nextInt(6);
            if (s.length() + part.length() <= 56 && random.nextInt(3) != 0 && isWhole(probe, s + part)) {
                s.append(part);
            }
        }
        return s.toString();
    }

    private static boolean isWhole(Model probe, String text) {
        probe.wipe();
        for (char c : text.toCharArray()) {
            probe.write(c);
        }
        return probe.fault() == Model.NONE;
    }

    static String mangled(Random random) {
        StringBuilder s = new StringBuilder(coast(random));
        int times = 1 + random.nextInt(2);
        for (int i = 0; i < times; i++) {
            int at = random.nextInt(s.length());
            int kind = random.nextInt(4);
            if (kind == 0) {
                s.setCharAt(at, LETTERS.charAt(random.nextInt(LETTERS.length())));
            } else if (kind == 1) {
                s.setLength(Math.max(at, 1));
            } else if (kind == 2) {
                s.insert(at, LETTERS.charAt(random.nextInt(LETTERS.length())));
            } else {
                s.append("HTID".charAt(random.nextInt(4)));
            }
        }
        return s.toString();
    }
}
