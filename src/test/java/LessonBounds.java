/** Boundary cases of LESSONS, LAWS and NEXT: terms 3, promises 22 to 25. */
final class LessonBounds {
    private static final int OUTSIDE = -2, FULL = -4, NONE = -9;
    private static final int MIN = Integer.MIN_VALUE, MAX = Integer.MAX_VALUE;
    private static final int[] CASES = {0, 10, 11, 20, 21, 30, 31, 40, 41};

    private final Sentences due;

    LessonBounds(Sentences due) {
        this.due = due;
    }

    void all() {
        noneAtFirst();
        sixAtMost();
        countedLeastAndMost();
        learnOutside();
        learnOwnOfNone();
        learnFull();
        unlearn();
        laws();
        lawsOfNoLesson();
        lawsNoneLeft();
        next();
        nextLeast();
        nextNone();
        nextOfOne();
    }

    private void noneAtFirst() {
        due.of("Term 3", "6 such at most, none at first. LAWS");
        SaidMine x = new SaidMine();
        due.due("lessons", x.count(11), 0);
        due.due("unlearn", x.unlearn(), 0);
    }

    private void sixAtMost() {
        due.of("Term 3", "was HELD, or was not: 6 such at most");
        SaidMine x = new SaidMine();
        for (int i = 1; i <= 6; i++) {
            due.due("learn", x.learn(1, true, true), i);
            due.due("lessons", x.count(11), i);
        }
        due.due("a seventh", x.learn(2, true, true), FULL);
        due.due("lessons", x.count(11), 6);
        due.due("the seventh is not learned", x.laws(), 7);
    }

    private void countedLeastAndMost() {
        due.of("Term 3", "that a THING to which just c were COUNTED (0 to 4), its own HOUSE one of them or not");
        int[] holds = {0, 3, 7, 9, 13, 9, 13, 9, 13};
        for (int i = 0; i < CASES.length; i++) {
            SaidMine x = new SaidMine();
            due.due("held in case " + CASES[i], x.learn(CASES[i] / 10, CASES[i] % 10 == 1, true), 1);
            due.due("laws", x.laws(), holds[i]);
            x.unlearn();
            due.due("not held in case " + CASES[i], x.learn(CASES[i] / 10, CASES[i] % 10 == 1, false), 1);
            due.due("laws", x.laws(), 15 - holds[i]);
        }
    }

    private void learnOutside() {
        due.of("Promise 22", "A LESSON: how many there are. OUTSIDE: c; its HOUSE is one of none; FULL: 6.");
        SaidMine x = new SaidMine();
        int[] none = {MIN, -9, -1, 5, 6, 9, MAX};
        for (int c : none) {
            due.due("learn(" + c + ", false, true)", x.learn(c, false, true), OUTSIDE);
            due.due("learn(" + c + ", true, false)", x.learn(c, true, false), OUTSIDE);
        }
        due.due("lessons", x.count(11), 0);
        due.due("learn(0, false, false)", x.learn(0, false, false), 1);
        due.due("learn(4, false, false)", x.learn(4, false, false), 2);
    }

    private void learnOwnOfNone() {
        due.of("Promise 22", "its HOUSE is one of none");
        SaidMine x = new SaidMine();
        due.due("learn(0, true, true)", x.learn(0, true, true), OUTSIDE);
        due.due("learn(0, true, false)", x.learn(0, true, false), OUTSIDE);
        due.due("learn(1, true, false)", x.learn(1, true, false), 1);
        due.due("learn(4, true, false)", x.learn(4, true, false), 2);
    }

    private void learnFull() {
        due.of("Promise 22", "FULL: 6.");
        SaidMine x = new SaidMine();
        for (int i = 0; i < 6; i++) {
            x.learn(i % 5, false, i % 5 > 1);
        }
        due.due("full", x.learn(0, false, true), FULL);
        due.due("no such c ahead of full", x.learn(5, false, true), OUTSIDE);
        due.due("one of none ahead of full", x.learn(0, true, true), OUTSIDE);
        due.due("laws are as they were", x.laws(), 8);
        x.unlearn();
        due.due("room again", x.learn(0, false, false), 1);
    }

    private void unlearn() {
        due.of("Promise 23", "There are no LESSONS: how many there were.");
        SaidMine x = new SaidMine();
        for (int many = 0; many <= 6; many++) {
            for (int i = 0; i < many; i++) {
                x.learn(0, false, true);
            }
            due.due("unlearn", x.unlearn(), many);
            due.due("lessons", x.count(11), 0);
            due.due("laws", x.laws(), 15);
        }
    }

    private void laws() {
        due.of("Promise 24", "LAWS, as bits.");
        SaidMine x = new SaidMine();
        x.learn(1, false, true);
        due.due("the first two", x.laws(), 3);
        x.learn(2, false, false);
        due.due("just the second", x.laws(), 2);
        x.unlearn();
        x.learn(1, true, false);
        due.due("just the last", x.laws(), 8);
        x.unlearn();
        x.learn(2, false, false);
        x.learn(2, true, true);
        due.due("just the third", x.laws(), 4);
        x.unlearn();
        x.learn(1, false, true);
        x.learn(2, false, true);
        due.due("just the first", x.laws(), 1);
    }

    private void lawsOfNoLesson() {
        due.of("Term 3", "LAWS (bits) by which all LESSONS are so.");
        due.due("of none", new SaidMine().laws(), 15);
        due.due("on a coast of some law", Check.coast("W21").laws(), 15);
        SaidMine x = new SaidMine();
        x.learn(0, false, false);
        due.due("of one that tells nothing", x.laws(), 15);
    }

    private void lawsNoneLeft() {
        due.of("Term 3", "that a THING to which just c were COUNTED (0 to 4), its own HOUSE one of them or not, was HELD, or was not");
        for (int code : CASES) {
            SaidMine x = new SaidMine();
            x.learn(code / 10, code % 10 == 1, true);
            x.learn(code / 10, code % 10 == 1, false);
            due.due("held, and not, in case " + code, x.laws(), 0);
        }
        SaidMine x = new SaidMine();
        x.learn(0, false, true);
        due.due("held by none", x.laws(), 0);
    }

    private void next() {
        due.of("Promise 25", "NEXT; NONE.");
        SaidMine x = new SaidMine();
        due.due("of no lesson", x.next(), 10);
        x.learn(1, false, true);
        due.due("of one", x.next(), 20);
        x.learn(2, false, true);
        due.due("when it is answered", x.next(), 0);
        x.learn(2, false, false);
        due.due("none left", x.next(), NONE);
        x.learn(0, false, false);
        due.due("none left still", x.next(), NONE);
    }

    /** Which case parts these laws best: written out, as four laws leave few sets. */
    private void nextLeast() {
        due.of("Term 3", "that by which LAWS that are left are parted best (the greater part is least); of like ones the least");
        int[] byLaws = {NONE, 0, 0, 20, 0, 10, 10, 10, 0, 10, 10, 10, 11, 10, 10, 10};
        for (int first : CASES) {
            for (int second : CASES) {
                for (int held = 0; held < 4; held++) {
                    SaidMine x = new SaidMine();
                    x.learn(first / 10, first % 10 == 1, held % 2 == 1);
                    x.learn(second / 10, second % 10 == 1, held / 2 == 1);
                    due.due("next of laws " + x.laws(), x.next(), byLaws[x.laws()]);
                }
            }
        }
        due.due("next of all", new SaidMine().next(), byLaws[15]);
    }

    private void nextNone() {
        due.of("Term 3", "NONE: no LAW is left.");
        SaidMine x = new SaidMine();
        x.learn(0, false, true);
        due.due("next", x.next(), NONE);
        x.unlearn();
        due.due("next when unlearned", x.next(), 10);
    }

    private void nextOfOne() {
        due.of("Term 3", "of cases (10 times c, and 1, if its HOUSE is one of them; c 0: it is not)");
        SaidMine x = new SaidMine();
        x.learn(1, true, false);
        due.due("one law is left: the least case", x.next(), 0);
        x = new SaidMine();
        x.learn(1, false, true);
        due.due("two that like cases of one do not part", x.next(), 20);
        x = new SaidMine();
        x.learn(1, false, false);
        due.due("two that only its own house parts", x.next(), 11);
    }
}
