/** What an object is, told by all that it answers. */
final class Remains {
    private Remains() { }

    /** What can be looked at; nothing is changed by it. */
    static String looks(SaidMine x) {
        StringBuilder s = new StringBuilder();
        int houses = x.count(3), things = x.count(4);
        for (int what = 0; what <= 12; what++) {
            s.append(x.count(what)).append(' ');
        }
        for (int house = 0; house < houses; house++) {
            for (int what = 0; what <= 4; what++) {
                s.append(x.house(house, what)).append(' ');
            }
        }
        for (int thing = 0; thing < things; thing++) {
            for (int what = 0; what <= 7; what++) {
                s.append(x.thing(thing, what)).append(' ');
            }
        }
        s.append(x.fault()).append(' ').append(x.laws()).append(' ').append(x.next());
        for (int house = 0; house < houses; house++) {
            for (int what = 0; what <= 2; what++) {
                s.append(' ').append(x.heard(house, 2, what));
            }
        }
        return s.toString();
    }

    /** What acts change, in few calls. */
    private static String brief(SaidMine x) {
        StringBuilder s = new StringBuilder();
        int houses = x.count(3), things = x.count(4);
        for (int house = 0; house < houses; house++) {
            s.append(x.house(house, 2)).append(' ');
        }
        for (int thing = 0; thing < things; thing++) {
            s.append(x.thing(thing, 0)).append(' ').append(x.thing(thing, 6)).append(' ');
        }
        return s.append(x.count(5)).append(' ').append(x.count(9)).append(' ').append(x.count(10)).toString();
    }

    /** All that is in an object, told by taking it apart: its acts, slots, seed, text, what was learned and seen. */
    static String of(SaidMine x) {
        StringBuilder s = new StringBuilder(looks(x));
        s.append("\nseed ").append(x.seed(0));
        int left = x.undo();
        while (left >= 0) {
            s.append("\nundone ").append(left).append(": ").append(brief(x));
            left = x.undo();
        }
        for (int slot = 0; slot <= 1; slot++) {
            s.append("\nslot ").append(x.again(slot)).append(": ").append(brief(x));
        }
        s.append("\ncoast ").append(x.coast()).append(": ").append(brief(x));
        s.append("\nunlearn ").append(x.unlearn()).append(", unsee ").append(x.unsee()).append(", wipe ").append(x.wipe());
        return s.toString();
    }
}
