/** Promises 9 to 14: what can be asked of a person. */
public final class PeopleTest {
    private static final Class<?> INDEX = IndexOutOfBoundsException.class;

    private PeopleTest() {
    }

    public static void main(String[] args) {
        noSuchPerson(new BargeWards(), 0);
        BargeWards t = town();
        noSuchPerson(t, 5);
        promise9FeverOf(t);
        promise10WardOf(t);
        promise11BargeOf(t);
        promise12IsHome(t);
        promise13IsInGreatHouse(t);
        promise14HungryDaysOf(t);
        promise14HungryDaysAddUp();
        Check.finish("PeopleTest");
    }

    /** Behind it: 0 in ward 0, 1 in ward 1, 2 at home, 3 in the great house, 4 on barge 1. */
    private static BargeWards town() {
        BargeWards t = new BargeWards();
        t.addBarge(1);
        t.addBarge(9);
        t.addWard(1);
        t.addWard(2);
        t.board(0, 5);
        t.board(0, 6);
        t.board(0, 0);
        t.board(0, 9);
        t.board(1, 3);
        t.pass(1);
        t.setBowls(2);
        t.pass(1);
        return t;
    }

    private static void noSuchPerson(BargeWards t, int people) {
        int[] wrong = {-1, people, 30, Integer.MIN_VALUE, Integer.MAX_VALUE};
        for (int p : wrong) {
            Check.dueThrow("9: feverOf(" + p + ")", t, INDEX, () -> t.feverOf(p));
            Check.dueThrow("10: wardOf(" + p + ")", t, INDEX, () -> t.wardOf(p));
            Check.dueThrow("11: bargeOf(" + p + ")", t, INDEX, () -> t.bargeOf(p));
            Check.dueThrow("12: isHome(" + p + ")", t, INDEX, () -> t.isHome(p) ? 1 : 0);
            Check.dueThrow("13: isInGreatHouse(" + p + ")", t, INDEX, () -> t.isInGreatHouse(p) ? 1 : 0);
            Check.dueThrow("14: hungryDaysOf(" + p + ")", t, INDEX, () -> t.hungryDaysOf(p));
        }
    }

    private static void promise9FeverOf(BargeWards t) {
        int[] want = {4, 5, 0, 10, 3};
        for (int p = 0; p < want.length; p++) {
            Check.due("9: feverOf(" + p + ")", t.feverOf(p), want[p]);
        }
    }

    private static void promise10WardOf(BargeWards t) {
        int[] want = {0, 1, -1, -1, -1};
        for (int p = 0; p < want.length; p++) {
            Check.due("10: wardOf(" + p + ")", t.wardOf(p), want[p]);
        }
    }

    private static void promise11BargeOf(BargeWards t) {
        int[] want = {-1, -1, -1, -1, 1};
        for (int p = 0; p < want.length; p++) {
            Check.due("11: bargeOf(" + p + ")", t.bargeOf(p), want[p]);
        }
        BargeWards u = new BargeWards();
        u.addBarge(4);
        u.board(0, 0);
        Check.due("11: bargeOf on barge 0", u.bargeOf(0), 0);
        Check.due("10: wardOf on barge 0", u.wardOf(0), -1);
    }

    private static void promise12IsHome(BargeWards t) {
        for (int p = 0; p < 5; p++) {
            Check.due("12: isHome(" + p + ")", t.isHome(p), p == 2);
        }
    }

    private static void promise13IsInGreatHouse(BargeWards t) {
        for (int p = 0; p < 5; p++) {
            Check.due("13: isInGreatHouse(" + p + ")", t.isInGreatHouse(p), p == 3);
        }
    }

    private static void promise14HungryDaysOf(BargeWards t) {
        int[] want = {0, 0, 0, 1, 0};
        for (int p = 0; p < want.length; p++) {
            Check.due("14: hungryDaysOf(" + p + ")", t.hungryDaysOf(p), want[p]);
        }
    }

    private static void promise14HungryDaysAddUp() {
        BargeWards t = new BargeWards();
        t.addBarge(1);
        t.addWard(1);
        t.board(0, 5);
        t.pass(1);
        Check.due("14: not hungry on the day of landing", t.hungryDaysOf(0), 0);
        t.setBowls(0);
        t.pass(2);
        Check.due("14: two days", t.hungryDaysOf(0), 2);
        t.setBowls(1);
        t.pass(1);
        Check.due("14: two days in all", t.hungryDaysOf(0), 2);
        t.setBowls(0);
        t.pass(1);
        Check.due("14: three days in all", t.hungryDaysOf(0), 3);
        t.setBowls(1);
        t.layStraw(0);
        t.pass(40);
        Check.due("14: looking ahead is not hunger", t.hungryDaysOf(0), 3);
    }
}
