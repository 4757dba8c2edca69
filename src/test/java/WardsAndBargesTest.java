/** Promises 15 to 22: what can be asked of a ward or a barge. */
public final class WardsAndBargesTest {
    private static final Class<?> INDEX = IndexOutOfBoundsException.class;

    private WardsAndBargesTest() {
    }

    public static void main(String[] args) {
        noSuchWard(new BargeWards(), 0);
        noSuchBarge(new BargeWards(), 0);
        BargeWards t = town();
        noSuchWard(t, 3);
        noSuchBarge(t, 3);
        answers("15: placesOf", new long[] {2, 1, 8}, new long[] {t.placesOf(0), t.placesOf(1), t.placesOf(2)});
        answers("16: peopleIn", new long[] {2, 1, 0}, new long[] {t.peopleIn(0), t.peopleIn(1), t.peopleIn(2)});
        answers("17: strawOf", new long[] {2, 0, 1}, new long[] {t.strawOf(0), t.strawOf(1), t.strawOf(2)});
        answers("18: feversIn", new long[] {9, 3, 0}, new long[] {t.feversIn(0), t.feversIn(1), t.feversIn(2)});
        answers("19: daysToGo", new long[] {0, 7, 2}, new long[] {t.daysToGo(0), t.daysToGo(1), t.daysToGo(2)});
        answers("20: keptFor", new long[] {1, 9, 3}, new long[] {t.keptFor(0), t.keptFor(1), t.keptFor(2)});
        answers("21: peopleOn", new long[] {0, 3, 1}, new long[] {t.peopleOn(0), t.peopleOn(1), t.peopleOn(2)});
        answers("22: highestFeverOn", new long[] {0, 8, 0},
            new long[] {t.highestFeverOn(0), t.highestFeverOn(1), t.highestFeverOn(2)});
        whoLeavesCountsNoMore();
        highestFeverIsNotTheLast();
        Check.finish("WardsAndBargesTest");
    }

    /** Behind it: 0 and 1 in ward 0, 2 in ward 1; 3, 4 and 6 on barge 1, 5 on barge 2. */
    private static BargeWards town() {
        BargeWards t = new BargeWards();
        t.addWard(2);
        t.addWard(1);
        t.addBarge(1);
        t.addBarge(9);
        t.board(0, 4);
        t.board(0, 7);
        t.board(0, 4);
        t.board(1, 7);
        t.pass(1);
        t.addWard(8);
        t.addBarge(3);
        t.board(1, 1);
        t.board(2, 0);
        t.pass(1);
        t.layStraw(1);
        t.board(1, 1);
        return t;
    }

    private static void noSuchWard(BargeWards t, int wards) {
        int[] wrong = {-1, wards, 5, Integer.MIN_VALUE, Integer.MAX_VALUE};
        for (int w : wrong) {
            Check.dueThrow("15: placesOf(" + w + ")", t, INDEX, () -> t.placesOf(w));
            Check.dueThrow("16: peopleIn(" + w + ")", t, INDEX, () -> t.peopleIn(w));
            Check.dueThrow("17: strawOf(" + w + ")", t, INDEX, () -> t.strawOf(w));
            Check.dueThrow("18: feversIn(" + w + ")", t, INDEX, () -> t.feversIn(w));
        }
    }

    private static void noSuchBarge(BargeWards t, int barges) {
        int[] wrong = {-1, barges, 4, Integer.MIN_VALUE, Integer.MAX_VALUE};
        for (int b : wrong) {
            Check.dueThrow("19: daysToGo(" + b + ")", t, INDEX, () -> t.daysToGo(b));
            Check.dueThrow("20: keptFor(" + b + ")", t, INDEX, () -> t.keptFor(b));
            Check.dueThrow("21: peopleOn(" + b + ")", t, INDEX, () -> t.peopleOn(b));
            Check.dueThrow("22: highestFeverOn(" + b + ")", t, INDEX, () -> t.highestFeverOn(b));
        }
    }

    private static void answers(String call, long[] want, long[] got) {
        for (int i = 0; i < want.length; i++) {
            Check.due(call + "(" + i + ")", got[i], want[i]);
        }
    }

    private static void whoLeavesCountsNoMore() {
        BargeWards t = new BargeWards();
        t.addWard(4);
        t.addBarge(1);
        t.board(0, 1);
        t.board(0, 9);
        t.pass(1);
        Check.due("16: peopleIn(0) with two", t.peopleIn(0), 2);
        Check.due("18: feversIn(0) with two", t.feversIn(0), 10);
        t.setBowls(1);
        t.pass(1);
        Check.due("16: peopleIn(0), one home, one in the great house", t.peopleIn(0), 0);
        Check.due("18: feversIn(0), one home, one in the great house", t.feversIn(0), 0);
        Check.due("15: placesOf(0) stays", t.placesOf(0), 4);
    }

    private static void highestFeverIsNotTheLast() {
        BargeWards t = new BargeWards();
        t.addBarge(5);
        t.addBarge(5);
        t.board(0, 3);
        t.board(0, 6);
        t.board(0, 2);
        t.board(1, 9);
        Check.due("22: highestFeverOn(0)", t.highestFeverOn(0), 6);
        Check.due("22: highestFeverOn(1)", t.highestFeverOn(1), 9);
        t.pass(1);
        Check.due("22: highestFeverOn(0) a day later", t.highestFeverOn(0), 7);
        BargeWards u = new BargeWards();
        u.addBarge(5);
        u.board(0, 6);
        u.board(0, 3);
        Check.due("22: highestFeverOn(0), the first one", u.highestFeverOn(0), 6);
    }
}
