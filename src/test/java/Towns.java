import java.util.Arrays;

/** Towns for the boundary tests, and the check of a refused call. */
final class Towns {
    interface Maker {
        BargeWards make();
    }

    interface Call {
        long on(BargeWards town);
    }

    interface CallAt {
        long on(BargeWards town, int at);
    }

    static final Class<?> INDEX = IndexOutOfBoundsException.class;
    static final Class<?> ARGUMENT = IllegalArgumentException.class;
    static final Class<?> STATE = IllegalStateException.class;

    static final int MIN = Integer.MIN_VALUE;
    static final int MAX = Integer.MAX_VALUE;

    private Towns() {
    }

    static BargeWards withWards(int... places) {
        BargeWards t = new BargeWards();
        for (int p : places) {
            t.addWard(p);
        }
        return t;
    }

    static BargeWards withBarges(int... kept) {
        BargeWards t = new BargeWards();
        for (int k : kept) {
            t.addBarge(k);
        }
        return t;
    }

    /** A town with one barge, people of these fevers on it, and no ward. */
    static BargeWards aboard(int kept, int... fevers) {
        BargeWards t = withBarges(kept);
        boardAll(t, 0, fevers);
        return t;
    }

    static void boardAll(BargeWards t, int barge, int... fevers) {
        for (int fever : fevers) {
            t.board(barge, fever);
        }
    }

    static int[] places(int... places) {
        return places;
    }

    /** A town on the day 1, whose barge was kept for a day and has come to the quay with these. */
    static BargeWards landed(int[] places, int... fevers) {
        BargeWards t = withWards(places);
        t.addBarge(1);
        boardAll(t, 0, fevers);
        t.pass(1);
        return t;
    }

    /** A town with one ward, straw of this age in it, and one person of this fever, who is fed. */
    static BargeWards onStraw(int straw, int fever) {
        BargeWards t = withWards(8);
        t.addBarge(1);
        for (int day = 1; day < straw; day++) {
            t.pass(1);
        }
        t.board(0, fever);
        t.pass(1);
        if (straw == 0) {
            t.layStraw(0);
        }
        return t;
    }

    /** Ward 0, fevers of 8, 9 and 10, and straw of 2 days. */
    static BargeWards highFevers() {
        BargeWards t = withWards(8);
        t.addBarge(2);
        boardAll(t, 0, 7, 8, 9);
        t.pass(2);
        return t;
    }

    /**
     * Two wards, two barges, five people, day 2. Person 0: ward 0, which is full, fever 4; 1: ward
     * 1, which has a free place, fever 5; 2: at home; 3: in the great house, was hungry; 4: on
     * barge 1, which has 7 of 9 days to go, fever 3. Barge 0 is at the quay, kept for 1 day. Straw
     * of 2 and 0 days, 2 bowls, 2 eaten.
     */
    static BargeWards busy() {
        BargeWards t = withWards(1, 2);
        t.addBarge(1);
        t.addBarge(9);
        boardAll(t, 0, 5, 6, 0, 9);
        t.board(1, 3);
        t.pass(1);
        t.setBowls(2);
        t.pass(1);
        t.layStraw(1);
        return t;
    }

    /** A town with this many people, some on barges, some in wards, some at home. */
    static BargeWards withPeople(int people) {
        BargeWards t = withWards(2, 8);
        t.addBarge(1);
        t.addBarge(9);
        for (int i = 0; i < people; i++) {
            t.board(i % 2, i % 7);
        }
        t.pass(1);
        return t;
    }

    /** Five wards of eight places, and this many people in them, all with a fever of 5. */
    static BargeWards crowded(int people) {
        BargeWards t = withWards(8, 8, 8, 8, 8);
        t.addBarge(1);
        for (int i = 0; i < people; i++) {
            t.board(0, 5);
        }
        t.pass(1);
        return t;
    }

    /** Five wards, four barges, thirty people: no more of anything can be added. */
    static BargeWards filled() {
        BargeWards t = withWards(1, 1, 1, 1, 1);
        for (int i = 0; i < 4; i++) {
            t.addBarge(2 + i);
        }
        for (int i = 0; i < 30; i++) {
            t.board(i % 4, (i + 5) % 10);
        }
        t.pass(3);
        return t;
    }

    /** The filled town behind some days without bowls, so that each in a ward was hungry. */
    static BargeWards hungry() {
        BargeWards t = filled();
        t.setBowls(0);
        t.pass(2);
        t.layStraw(2);
        t.setBowls(3);
        return t;
    }

    /** The call throws exactly this, and leaves the town like a twin that never got the call. */
    static boolean refused(String what, Maker maker, Class<?> want, Call call) {
        BargeWards town = maker.make();
        BargeWards twin = maker.make();
        String due = "throws." + want.getSimpleName();
        String outcome = Check.outcome(() -> call.on(town));
        Check.dueText(what, outcome, due);
        alike(what + " changes nothing", town, twin);
        // Whether it is refused a second time tells whether the first one left something behind.
        Check.dueText(what + " again", Check.outcome(() -> call.on(town)), due);
        Check.due(what + ", then pass(3)", town.pass(3), twin.pass(3));
        Check.due(what + ", then pass(3): digest()", town.digest(), twin.digest());
        return outcome.equals(due);
    }

    /** Both towns answer the same, now and in the days to come. */
    static void alike(String what, BargeWards town, BargeWards twin) {
        Check.due(what + ": digest()", town.digest(), twin.digest());
        Check.due(what + ": freePlaces()", town.freePlaces(), twin.freePlaces());
        Check.due(what + ": bowlsShort()", town.bowlsShort(), twin.bowlsShort());
        Check.due(what + ": homeAfter(9)", town.homeAfter(9), twin.homeAfter(9));
        Check.due(what + ": greatHouseAfter(9)", town.greatHouseAfter(9), twin.greatHouseAfter(9));
        Check.due(what + ": bestStraw(5)", town.bestStraw(5), twin.bestStraw(5));
        Check.due(what + ": digest() still", town.digest(), twin.digest());
    }

    /**
     * These calls, each on a town of its own, are refused with an IllegalArgumentException. It ends
     * with the first that is not: the next ones, far outside, might take for ever then.
     */
    static void refusedArguments(String name, Maker maker, CallAt call, int... wrong) {
        for (int x : wrong) {
            if (!refused(name + "(" + x + ")", maker, ARGUMENT, t -> call.on(t, x))) {
                return;
            }
        }
    }

    /** There are people 0 to count - 1 and no others, for each count. */
    static void noSuchPerson(String name, CallAt call) {
        for (int count = 0; count <= 30; count++) {
            int people = count;
            onlyThoseBelow(name, people, () -> withPeople(people), call);
        }
    }

    static void noSuchWard(String name, CallAt call) {
        for (int count = 0; count <= 5; count++) {
            int[] places = {3, 1, 8, 2, 5};
            int wards = count;
            onlyThoseBelow(name, wards, () -> withWards(Arrays.copyOf(places, wards)), call);
        }
    }

    static void noSuchBarge(String name, CallAt call) {
        for (int count = 0; count <= 4; count++) {
            int[] kept = {3, 1, 9, 2};
            int barges = count;
            onlyThoseBelow(name, barges, () -> withBarges(Arrays.copyOf(kept, barges)), call);
        }
    }

    private static void onlyThoseBelow(String name, int count, Maker maker, CallAt call) {
        int[] outside = {-1, count, count + 1, MIN, MAX};
        for (int at : outside) {
            refused(name + "(" + at + ") of " + count, maker, INDEX, t -> call.on(t, at));
        }
        for (int at = 0; at < count; at++) {
            BargeWards t = maker.make();
            int inside = at;
            String outcome = Check.outcome(() -> call.on(t, inside));
            Check.due(name + "(" + at + ") of " + count + " throws", outcome.startsWith("throws."), false);
        }
    }
}
