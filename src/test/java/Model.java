import java.math.BigInteger;
import java.util.ArrayList;
import java.util.Arrays;
import java.util.List;
import java.util.TreeMap;
import java.util.TreeSet;
import java.util.regex.Pattern;

/**
 * The document told a second time, by trying out everything and with no care for cost:
 * what SaidMine answers is compared with it.
 */
final class Model {
    static final int UNKNOWN = -1, OUTSIDE = -2, STATE = -3, FULL = -4, NONE = -9;
    /** Answered where trying out everything would take too long. */
    static final int UNTOLD = Integer.MIN_VALUE;
    private static final long MOST_TRIED = 4000;
    private static final Pattern COAST =
        Pattern.compile("W[0-3][1-5](H[0-5][0-4]|T[0-5][1-3][0-9][-0-3]|I[0-5][0-5]|D[0-3])*");

    private static final class House {
        int place, breaths;
    }

    private static final class Thing {
        int place, pace, worth, house = NONE, inside = NONE;
    }

    private static final class Told {
        int law = 0, last = 1;
        List<House> houses = new ArrayList<>();
        List<Thing> things = new ArrayList<>();
        TreeSet<Integer> owing = new TreeSet<>();
    }

    private static final class Now {
        int[] place;
        List<TreeSet<Integer>> said = new ArrayList<>();
        TreeSet<Integer> stones = new TreeSet<>();
        TreeSet<Integer> owing = new TreeSet<>();
        int blows;

        Now copy() {
            Now n = new Now();
            n.place = place.clone();
            for (TreeSet<Integer> s : said) {
                n.said.add(new TreeSet<>(s));
            }
            n.stones.addAll(stones);
            n.owing.addAll(owing);
            n.blows = blows;
            return n;
        }
    }

    private String text = "";
    private Told told = new Told();
    private Now now = fresh(told);
    private final List<Now> acts = new ArrayList<>();
    private final Now[] kept = new Now[2];
    private final List<int[]> lessons = new ArrayList<>();
    private final List<int[]> seen = new ArrayList<>();
    private BigInteger seed = BigInteger.ZERO;

    private static Now fresh(Told t) {
        Now n = new Now();
        n.place = new int[t.things.size()];
        for (int i = 0; i < n.place.length; i++) {
            n.place[i] = t.things.get(i).place;
        }
        for (int i = 0; i < t.houses.size(); i++) {
            n.said.add(new TreeSet<>());
        }
        n.owing.addAll(t.owing);
        return n;
    }

    // ---- the coast

    int write(int letter) {
        if (letter < 0 || letter > 255) return OUTSIDE;
        if (text.length() == 56) return FULL;
        text += (char) letter;
        return text.length();
    }

    int wipe() {
        int n = text.length();
        text = "";
        return n;
    }

    int fault() {
        if (whole(text) != null) return NONE;
        for (int n = 1; n <= text.length(); n++) {
            String start = text.substring(0, n);
            if (!canBecomeWhole(start, missing(start))) return n - 1;
        }
        return text.length();
    }

    /** How many letters the last part of a text still lacks, whatever they are. */
    private static int missing(String s) {
        int end = 3;
        while (end < s.length()) {
            char kind = s.charAt(end);
            end += kind == 'T' ? 5 : kind == 'D' ? 2 : 3;
        }
        return end - s.length();
    }

    private static boolean canBecomeWhole(String start, int more) {
        if (more == 0) return whole(start) != null;
        for (char c : "10-23456789".toCharArray()) {
            if (canBecomeWhole(start + c, more - 1)) return true;
        }
        return false;
    }

    /** The coast that a text tells as it is; null, if it is none. */
    private static Told whole(String s) {
        if (!COAST.matcher(s).matches()) return null;
        Told t = new Told();
        t.law = s.charAt(1) - '0';
        t.last = s.charAt(2) - '0';
        int at = 3;
        while (at < s.length()) {
            char kind = s.charAt(at);
            int length = kind == 'T' ? 5 : kind == 'D' ? 2 : 3;
            String part = s.substring(at, at + length);
            at += length;
            boolean fine = kind == 'H' ? house(t, part) : kind == 'T' ? thing(t, part)
                : kind == 'I' ? lying(t, part) : debt(t, part);
            if (!fine) return null;
        }
        return t;
    }

    private static boolean house(Told t, String part) {
        House h = new House();
        h.place = part.charAt(1) - '0';
        h.breaths = part.charAt(2) - '0';
        t.houses.add(h);
        return h.place <= t.last && t.houses.size() <= 4;
    }

    private static boolean thing(Told t, String part) {
        Thing g = new Thing();
        g.place = part.charAt(1) - '0';
        g.pace = part.charAt(2) - '0';
        g.worth = part.charAt(3) - '0';
        g.house = part.charAt(4) == '-' ? NONE : part.charAt(4) - '0';
        t.things.add(g);
        return g.place <= t.last && t.things.size() <= 6 && g.house < t.houses.size();
    }

    private static boolean lying(Told t, String part) {
        int i = part.charAt(1) - '0', j = part.charAt(2) - '0';
        if (i >= t.things.size() || j >= t.things.size() || i == j) return false;
        Thing a = t.things.get(i), b = t.things.get(j);
        if (a.place != b.place || a.inside != NONE || allIn(t, i).contains(j)) return false;
        a.inside = j;
        return true;
    }

    private static boolean debt(Told t, String part) {
        int i = part.charAt(1) - '0';
        return i < t.houses.size() && t.owing.add(i);
    }

    private static TreeSet<Integer> allIn(Told t, int thing) {
        TreeSet<Integer> in = new TreeSet<>();
        for (int i = 0; i < t.things.size(); i++) {
            if (t.things.get(i).inside == thing) {
                in.add(i);
                in.addAll(allIn(t, i));
            }
        }
        return in;
    }

    int coast() {
        if (fault() != NONE) return STATE;
        told = whole(text);
        now = fresh(told);
        acts.clear();
        Arrays.fill(kept, null);
        return 10 * told.houses.size() + told.things.size();
    }

    int house(int house, int what) {
        if (noHouse(house)) return UNKNOWN;
        if (what == 0) return told.houses.get(house).place;
        if (what == 1) return left(now, house);
        if (what == 2) return bits(now.said.get(house));
        if (what == 3) return now.owing.contains(house) ? 1 : 0;
        if (what == 4) return bits(near(now, house));
        return OUTSIDE;
    }

    int thing(int thing, int what) {
        if (noThing(thing)) return UNKNOWN;
        Thing t = told.things.get(thing);
        if (what == 0) return now.place[thing];
        if (what == 1) return t.pace;
        if (what == 2) return t.worth;
        if (what == 3) return t.house;
        if (what == 4) return t.inside;
        if (what == 5) return bits(counted(now, thing));
        if (what == 6) return now.stones.contains(thing) ? 1 : 0;
        if (what == 7) return stays(now, thing) ? 1 : 0;
        return OUTSIDE;
    }

    private boolean noHouse(int house) {
        return house < 0 || house >= told.houses.size();
    }

    private boolean noThing(int thing) {
        return thing < 0 || thing >= told.things.size();
    }

    private int left(Now n, int house) {
        return told.houses.get(house).breaths - n.said.get(house).size();
    }

    private TreeSet<Integer> near(Now n, int house) {
        TreeSet<Integer> near = new TreeSet<>();
        for (int t = 0; t < n.place.length; t++) {
            int apart = n.place[t] - told.houses.get(house).place;
            if (apart == -1 || apart == 0 || apart == 1) near.add(t);
        }
        return near;
    }

    private TreeSet<Integer> counted(Now n, int thing) {
        TreeSet<Integer> c = new TreeSet<>();
        for (int h = 0; h < n.said.size(); h++) {
            if (n.said.get(h).contains(thing) && !n.owing.contains(h)) c.add(h);
        }
        return c;
    }

    private static boolean held(int law, int c, boolean own) {
        if (law == 0) return c > 0;
        if (law == 1) return c == 1;
        if (law == 2) return own;
        return c > 1;
    }

    private boolean stays(Now n, int thing) {
        Thing t = told.things.get(thing);
        if (t.inside != NONE) return stays(n, t.inside);
        TreeSet<Integer> c = counted(n, thing);
        return n.stones.contains(thing) || held(told.law, c.size(), c.contains(t.house));
    }

    private TreeSet<Integer> staying(Now n) {
        TreeSet<Integer> s = new TreeSet<>();
        for (int t = 0; t < n.place.length; t++) {
            if (stays(n, t)) s.add(t);
        }
        return s;
    }

    private static int bits(Iterable<Integer> set) {
        int b = 0;
        for (int i : set) {
            b += 1 << i;
        }
        return b;
    }

    private int worth(Iterable<Integer> set) {
        int w = 0;
        for (int t : set) {
            w += told.things.get(t).worth;
        }
        return w;
    }

    // ---- acts

    private int whyNot(Now n, int house, int thing) {
        if (noHouse(house) || noThing(thing)) return UNKNOWN;
        if (!near(n, house).contains(thing)) return OUTSIDE;
        if (n.said.get(house).contains(thing) || left(n, house) < 1) return STATE;
        return 0;
    }

    private void act() {
        acts.add(now.copy());
        if (acts.size() > 16) acts.remove(0);
    }

    int say(int house, int thing) {
        int why = whyNot(now, house, thing);
        if (why != 0) return why;
        act();
        now.said.get(house).add(thing);
        return stays(now, thing) ? 1 : 0;
    }

    int stone(int thing) {
        if (noThing(thing)) return UNKNOWN;
        act();
        if (now.stones.remove(thing)) return 0;
        now.stones.add(thing);
        return 1;
    }

    int pay(int house) {
        if (noHouse(house)) return UNKNOWN;
        if (!now.owing.contains(house)) return STATE;
        act();
        now.owing.remove(house);
        return bits(staying(now));
    }

    private TreeSet<Integer> blow(Now n) {
        TreeSet<Integer> moved = new TreeSet<>();
        TreeSet<Integer> stay = staying(n);
        int[] before = n.place.clone();
        for (int t = 0; t < n.place.length; t++) {
            if (told.things.get(t).inside == NONE && !stay.contains(t)) {
                int to = before[t];
                for (int step = 0; step < told.things.get(t).pace && to < told.last; step++) {
                    to++;
                }
                n.place[t] = to;
                for (int in : allIn(told, t)) {
                    n.place[in] = to;
                }
            }
        }
        for (int t = 0; t < n.place.length; t++) {
            if (n.place[t] != before[t]) moved.add(t);
        }
        n.blows++;
        return moved;
    }

    private TreeSet<Integer> atLast(Now n) {
        TreeSet<Integer> there = new TreeSet<>();
        for (int t = 0; t < n.place.length; t++) {
            if (n.place[t] == told.last) there.add(t);
        }
        return there;
    }

    private Now behind(Now n, int blows) {
        Now then = n.copy();
        for (int i = 0; i < blows; i++) {
            blow(then);
        }
        return then;
    }

    int blow() {
        act();
        return bits(blow(now));
    }

    int dawn() {
        act();
        int n = saidCount();
        for (TreeSet<Integer> s : now.said) {
            s.clear();
        }
        return n;
    }

    private int saidCount() {
        int n = 0;
        for (TreeSet<Integer> s : now.said) {
            n += s.size();
        }
        return n;
    }

    int undo() {
        if (acts.isEmpty()) return STATE;
        now = acts.remove(acts.size() - 1);
        return acts.size();
    }

    int judge(int n, long row) {
        if (n < 1 || n > 5 || row < 0 || Long.toString(row).length() > 2 * n) return OUTSIDE;
        String figures = "0".repeat(2 * n - Long.toString(row).length()) + row;
        Now trial = now.copy();
        for (int i = 0; i < n; i++) {
            String two = figures.substring(2 * i, 2 * i + 2);
            if (two.equals("90")) {
                TreeSet<Integer> there = atLast(trial);
                blow(trial);
                if (!there.containsAll(atLast(trial))) return i;
            } else {
                int h = two.charAt(0) - '0', t = two.charAt(1) - '0';
                if (whyNot(trial, h, t) != 0) return i;
                trial.said.get(h).add(t);
            }
        }
        return NONE;
    }

    // ---- to keep

    /** All ways in which the houses of a set may say more now. */
    private List<Now> ways(Now from, TreeSet<Integer> houses) {
        long size = 1;
        for (int h : houses) {
            size *= subsets(sayable(from, h), left(from, h)).size();
        }
        if (size > MOST_TRIED) return null;
        List<Now> all = new ArrayList<>();
        all.add(from);
        for (int h : houses) {
            List<Now> more = new ArrayList<>();
            for (Now n : all) {
                for (TreeSet<Integer> set : subsets(sayable(from, h), left(from, h))) {
                    Now m = n.copy();
                    m.said.get(h).addAll(set);
                    more.add(m);
                }
            }
            all = more;
        }
        return all;
    }

    private TreeSet<Integer> sayable(Now n, int house) {
        TreeSet<Integer> s = near(n, house);
        s.removeAll(n.said.get(house));
        return s;
    }

    private static List<TreeSet<Integer>> subsets(TreeSet<Integer> of, int most) {
        List<TreeSet<Integer>> all = new ArrayList<>();
        all.add(new TreeSet<>());
        for (int t : of) {
            for (int i = all.size() - 1; i >= 0; i--) {
                if (all.get(i).size() < most) {
                    TreeSet<Integer> s = new TreeSet<>(all.get(i));
                    s.add(t);
                    all.add(s);
                }
            }
        }
        return all;
    }

    private TreeSet<Integer> allHouses() {
        TreeSet<Integer> h = new TreeSet<>();
        for (int i = 0; i < told.houses.size(); i++) {
            h.add(i);
        }
        return h;
    }

    /** By things, which houses say it more. */
    private int[] more(Now than, Now n) {
        int[] by = new int[n.place.length];
        for (int t = 0; t < by.length; t++) {
            for (int h = 0; h < n.said.size(); h++) {
                if (n.said.get(h).contains(t) && !than.said.get(h).contains(t)) by[t] += 1 << h;
            }
        }
        return by;
    }

    private static int sum(int[] by) {
        int s = 0;
        for (int b : by) {
            s += Integer.bitCount(b);
        }
        return s;
    }

    /** The best way as told by things; empty, if there is none; null, if there are too many to try. */
    private int[] bestWay(int things) {
        List<Now> all = ways(now, allHouses());
        if (all == null) return null;
        int[] best = new int[0];
        for (Now n : all) {
            if ((bits(staying(n)) & things) != things) continue;
            int[] by = more(now, n);
            if (best.length == 0 || sum(by) < sum(best)
                || sum(by) == sum(best) && Arrays.compare(by, best) < 0) best = by;
        }
        return best;
    }

    private boolean noSet(int things) {
        return things < 0 || things >= 1 << told.things.size();
    }

    int toKeep(int things) {
        if (noSet(things)) return OUTSIDE;
        if (told.things.isEmpty()) return 0;
        int[] best = bestWay(things);
        return best == null ? UNTOLD : best.length == 0 ? NONE : sum(best);
    }

    int by(int things, int thing) {
        if (noSet(things)) return OUTSIDE;
        if (noThing(thing)) return UNKNOWN;
        int[] best = bestWay(things);
        return best == null ? UNTOLD : best.length == 0 ? NONE : best[thing];
    }

    private int most(Now from, TreeSet<Integer> houses) {
        List<Now> all = ways(from, houses);
        if (all == null) return UNTOLD;
        int most = 0;
        for (Now n : all) {
            most = Math.max(most, worth(staying(n)));
        }
        return most;
    }

    int most() {
        return most(now, allHouses());
    }

    private void orders(List<Integer> order, TreeSet<Integer> left, List<List<Integer>> into) {
        if (left.isEmpty()) into.add(new ArrayList<>(order));
        for (int h : new TreeSet<>(left)) {
            order.add(h);
            left.remove(h);
            orders(order, left, into);
            left.add(h);
            order.remove(order.size() - 1);
        }
    }

    int share(int house, boolean upper) {
        if (noHouse(house)) return UNKNOWN;
        Now from = now.copy();
        for (TreeSet<Integer> s : from.said) {
            s.clear();
        }
        TreeMap<Integer, Integer> worth = new TreeMap<>();
        for (TreeSet<Integer> set : subsets(allHouses(), 4)) {
            int most = most(from, set);
            if (most == UNTOLD) return UNTOLD;
            worth.put(bits(set), most);
        }
        List<List<Integer>> orders = new ArrayList<>();
        orders(new ArrayList<>(), allHouses(), orders);
        long sum = 0;
        for (List<Integer> order : orders) {
            TreeSet<Integer> come = new TreeSet<>(order.subList(0, order.indexOf(house)));
            int was = worth.get(bits(come));
            come.add(house);
            sum += worth.get(bits(come)) - was;
        }
        return fraction(BigInteger.valueOf(sum), BigInteger.valueOf(orders.size()), upper);
    }

    private static int fraction(BigInteger above, BigInteger below, boolean upper) {
        BigInteger g = above.gcd(below);
        return (upper ? above : below).divide(g).intValueExact();
    }

    int rests(int house, int other, int thing) {
        if (noHouse(house) || noHouse(other) || noThing(thing)) return UNKNOWN;
        if (house == other) return OUTSIDE;
        int ways = 0;
        for (int way = 0; way < 4; way++) {
            int[] got = gains(house, other, thing, way);
            int[] a = gains(house, other, thing, way ^ 1), b = gains(house, other, thing, way ^ 2);
            if (got != null && (a == null || a[0] <= got[0]) && (b == null || b[1] <= got[1])) ways |= 1 << way;
        }
        return ways;
    }

    /** What each of the two has; null, if one would say again what it said. */
    private int[] gains(int house, int other, int thing, int way) {
        Now n = now.copy();
        boolean first = way % 2 == 1, second = way / 2 == 1;
        if (first && !n.said.get(house).add(thing)) return null;
        if (second && !n.said.get(other).add(thing)) return null;
        int worth = stays(n, thing) ? told.things.get(thing).worth : 0;
        return new int[] {first ? worth - 1 : worth, second ? worth - 1 : worth};
    }

    int behind(int thing, int n) {
        if (noThing(thing)) return UNKNOWN;
        if (n < 0 || n > 9) return OUTSIDE;
        return behind(now, n).place[thing];
    }

    int quay(int n) {
        if (n < 0 || n > 9) return OUTSIDE;
        return worth(atLast(behind(now, n)));
    }

    // ---- lessons

    int learn(int c, boolean own, boolean held) {
        if (c < 0 || c > 4 || c == 0 && own) return OUTSIDE;
        if (lessons.size() == 6) return FULL;
        lessons.add(new int[] {c, own ? 1 : 0, held ? 1 : 0});
        return lessons.size();
    }

    int unlearn() {
        int n = lessons.size();
        lessons.clear();
        return n;
    }

    private TreeSet<Integer> lawsLeft() {
        TreeSet<Integer> left = new TreeSet<>(List.of(0, 1, 2, 3));
        for (int[] l : lessons) {
            left.removeIf(law -> held(law, l[0], l[1] == 1) != (l[2] == 1));
        }
        return left;
    }

    int laws() {
        return bits(lawsLeft());
    }

    int next() {
        TreeSet<Integer> left = lawsLeft();
        if (left.isEmpty()) return NONE;
        TreeMap<Integer, Integer> firstOfPart = new TreeMap<>();
        for (int code : new int[] {0, 10, 11, 20, 21, 30, 31, 40, 41}) {
            int yes = 0;
            for (int law : left) {
                yes += held(law, code / 10, code % 10 == 1) ? 1 : 0;
            }
            firstOfPart.putIfAbsent(Math.max(yes, left.size() - yes), code);
        }
        return firstOfPart.firstEntry().getValue();
    }

    // ---- seen, forgotten

    int see(int thing, boolean there) {
        if (noThing(thing)) return UNKNOWN;
        if (seen.size() == 6) return FULL;
        seen.add(new int[] {thing, there ? 1 : 0});
        return seen.size();
    }

    int unsee() {
        int n = seen.size();
        seen.clear();
        return n;
    }

    int heard(int house, int n, int what) {
        if (noHouse(house)) return UNKNOWN;
        if (n < 0 || n > 9 || what < 0 || what > 2) return OUTSIDE;
        List<TreeSet<Integer>> may = new ArrayList<>();
        for (TreeSet<Integer> set : subsets(near(now, house), told.houses.get(house).breaths)) {
            Now trial = now.copy();
            trial.said.set(house, set);
            TreeSet<Integer> there = atLast(behind(trial, n));
            boolean so = true;
            for (int[] s : seen) {
                so &= noThing(s[0]) || there.contains(s[0]) == (s[1] == 1);
            }
            if (so) may.add(set);
        }
        if (what == 0) return may.size();
        if (may.isEmpty()) return NONE;
        TreeSet<Integer> told = new TreeSet<>();
        for (int t = 0; t < now.place.length; t++) {
            int in = 0;
            for (TreeSet<Integer> set : may) {
                in += set.contains(t) ? 1 : 0;
            }
            if (in == (what == 1 ? may.size() : 0)) told.add(t);
        }
        return bits(told);
    }

    int forgotten(int thing, int x, boolean upper) {
        if (noThing(thing)) return UNKNOWN;
        if (x < 0 || x > 10) return OUTSIDE;
        List<int[]> said = new ArrayList<>();
        for (int h = 0; h < now.said.size(); h++) {
            for (int t : now.said.get(h)) {
                said.add(new int[] {h, t});
            }
        }
        BigInteger above = forget(now.copy(), said, 0, thing, x);
        return fraction(above, BigInteger.TEN.pow(said.size()), upper);
    }

    private BigInteger forget(Now n, List<int[]> said, int from, int thing, int x) {
        if (from == said.size()) return stays(n, thing) ? BigInteger.ONE : BigInteger.ZERO;
        int[] s = said.get(from);
        BigInteger keeps = forget(n, said, from + 1, thing, x).multiply(BigInteger.valueOf(10 - x));
        n.said.get(s[0]).remove(s[1]);
        BigInteger loses = forget(n, said, from + 1, thing, x).multiply(BigInteger.valueOf(x));
        n.said.get(s[0]).add(s[1]);
        return keeps.add(loses);
    }

    long seed(long v) {
        long was = seed.longValue();
        seed = BigInteger.valueOf(v);
        return was;
    }

    int winds(int m) {
        if (m < 1 || m > 20) return OUTSIDE;
        Now trial = now.copy();
        BigInteger whole = BigInteger.TWO.pow(64);
        for (int i = 0; i < m; i++) {
            seed = seed.multiply(new BigInteger("6364136223846793005"))
                .add(new BigInteger("1442695040888963407")).mod(whole);
            int t = seed.divide(BigInteger.TWO.pow(33)).mod(BigInteger.valueOf(8)).intValue();
            if (!noThing(t) && !trial.stones.remove(t)) trial.stones.add(t);
            blow(trial);
        }
        return worth(atLast(trial));
    }

    // ---- slots

    int keep(int slot) {
        if (slot != 0 && slot != 1) return UNKNOWN;
        kept[slot] = now.copy();
        return now.blows;
    }

    int again(int slot) {
        if (slot != 0 && slot != 1) return UNKNOWN;
        if (kept[slot] == null) return STATE;
        now = kept[slot].copy();
        acts.clear();
        return now.blows;
    }

    int count(int what) {
        int[] counts = {text.length(), told.law, told.last, told.houses.size(), told.things.size(), now.blows,
            bits(staying(now)), bits(atLast(now)), saidCount(), bits(now.owing), acts.size(), lessons.size(),
            seen.size()};
        return what < 0 || what >= counts.length ? OUTSIDE : counts[what];
    }
}
