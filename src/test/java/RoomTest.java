import java.lang.management.ManagementFactory;
import java.util.Random;

/** All calls of a run share one room: calls make nothing, and an object is small. Odd arguments never throw. */
public final class RoomTest {
    private static final int OBJECTS = 100;
    private static final int MOST_BYTES_OF_ONE = 20000;
    private static final int CALLS = 200000;
    private static final int[] ODD = {Integer.MIN_VALUE, -10, -9, -2, -1, 6, 7, 9, 10, 11, 31, 32, 63, 64, 100, 255, 256,
        Integer.MAX_VALUE};
    private static final String[] COASTS = {"W01", "W35H04H14H24H04T019-T118-T217-T016-T115-T214-",
        "W05H04H04H04H04T0191T0180T0173T0162T0151T0140I01I12", "W15H14H14H14H14D0D3T119-T219-T115-T117-T111-",
        "W22H02H12H22T0150T1361T2172T013-D1I03"};

    private static final com.sun.management.ThreadMXBean THREADS =
        (com.sun.management.ThreadMXBean) ManagementFactory.getThreadMXBean();

    private RoomTest() { }

    public static void main(String[] args) {
        Check check = new Check();
        objects(check);
        calls(check);
        beyondTheLastCall(check);
        check.end("RoomTest");
    }

    private static long made() {
        return THREADS.getThreadAllocatedBytes(Thread.currentThread().getId());
    }

    private static void objects(Check check) {
        SaidMine[] all = new SaidMine[OBJECTS];
        all[0] = new SaidMine();
        made();
        long before = made();
        for (int i = 0; i < OBJECTS; i++) {
            all[i] = new SaidMine();
        }
        long each = (made() - before) / OBJECTS;
        System.out.println("bytes of one object: " + each);
        check.isTrue("an object of " + each + " bytes is small", each > 0 && each <= MOST_BYTES_OF_ONE);
    }

    private static int number(Random random) {
        return random.nextInt(6) == 0 ? ODD[random.nextInt(ODD.length)] : random.nextInt(7);
    }

    private static void calls(Check check) {
        for (String text : COASTS) {
            SaidMine x = Check.coast(text);
            Random random = new Random(text.length());
            for (int i = 0; i < CALLS / 10; i++) {
                any(x, random);
            }
            made();
            long before = made();
            for (int i = 0; i < CALLS; i++) {
                any(x, random);
            }
            long bytes = made() - before;
            // the measuring itself makes some
            check.isTrue(bytes + " bytes made by " + CALLS + " calls on " + text, bytes < CALLS);
        }
    }

    /** What is answered behind the 512th call is free; that it answers is not. */
    private static void beyondTheLastCall(Check check) {
        SaidMine x = Check.coast(COASTS[1]);
        for (int i = 0; i < 1000; i++) {
            x.blow();
        }
        check.due("a thousand blows", x.count(5), 1000);
    }

    private static long any(SaidMine x, Random random) {
        int a = number(random), b = number(random), c = number(random);
        boolean p = random.nextBoolean(), q = random.nextBoolean();
        switch (random.nextInt(33)) {
            case 0: return random.nextInt(20) == 0 ? x.wipe() : 0;
            case 1: return x.write("WHTID0123456789-".charAt(random.nextInt(16)));
            case 2: return x.fault();
            case 3: return random.nextInt(20) == 0 ? x.coast() : 0;
            case 4: return x.house(a, b);
            case 5: return x.thing(a, b);
            case 6: case 7: return x.say(a, b);
            case 8: return x.stone(a);
            case 9: return x.pay(a);
            case 10: return x.blow();
            case 11: return x.dawn();
            case 12: return x.undo();
            case 13: return x.judge(a, random.nextBoolean() ? random.nextLong() : random.nextInt(10000));
            case 14: return x.toKeep(random.nextBoolean() ? a : random.nextInt(64));
            case 15: return x.by(random.nextBoolean() ? a : random.nextInt(64), b);
            case 16: return x.most();
            case 17: return x.share(a, p);
            case 18: return x.rests(a, b, c);
            case 19: return x.behind(a, b);
            case 20: return x.quay(a);
            case 21: return x.learn(a, p, q);
            case 22: return x.unlearn();
            case 23: return x.laws();
            case 24: return x.next();
            case 25: return x.see(a, p);
            case 26: return x.unsee();
            case 27: return x.heard(a, b, c);
            case 28: return x.forgotten(a, b, p);
            case 29: return x.winds(a) + x.seed(random.nextLong());
            case 30: return x.keep(a);
            case 31: return x.again(a);
            default: return x.count(a);
        }
    }
}
