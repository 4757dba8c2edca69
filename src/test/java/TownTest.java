/** Promises 1 to 8: a new object, and the calls that change the town. */
public final class TownTest {
    private static final Class<?> INDEX = IndexOutOfBoundsException.class;
    private static final Class<?> ARGUMENT = IllegalArgumentException.class;
    private static final Class<?> STATE = IllegalStateException.class;

    private TownTest() {
    }

    public static void main(String[] args) {
        promise1NewObject();
        promise2AddWard();
        promise3AddBarge();
        promise4Board();
        promise4BoardAtTheQuay();
        promise5SetBowls();
        promise6LayStraw();
        promise7Carry();
        promise7CarriedPeopleEatByTheirNewWard();
        promise8Pass();
        promise8PassCountsOnlyThoseWhoGoHomeNow();
        objectsAreApart();
        Check.finish("TownTest");
    }

    private static void promise1NewObject() {
        BargeWards t = new BargeWards();
        Check.due("1: day()", t.day(), 0);
        Check.due("1: wards()", t.wards(), 0);
        Check.due("1: barges()", t.barges(), 0);
        Check.due("1: people()", t.people(), 0);
        Check.due("1: bowls()", t.bowls(), 20);
        Check.due("1: bowlsEaten()", t.bowlsEaten(), 0);
        Check.due("1: freePlaces()", t.freePlaces(), 0);
        Check.due("1: peopleHome()", t.peopleHome(), 0);
        Check.due("1: peopleInGreatHouse()", t.peopleInGreatHouse(), 0);
        Check.due("1: pass(40) in an empty town", t.pass(40), 0);
        Check.due("1: day() behind it", t.day(), 40);
    }

    private static void promise2AddWard() {
        BargeWards t = new BargeWards();
        int[] wrong = {0, -1, 9, Integer.MIN_VALUE, Integer.MAX_VALUE};
        for (int places : wrong) {
            Check.dueThrow("2: addWard(" + places + ")", t, ARGUMENT, () -> t.addWard(places));
        }
        int[] right = {1, 8, 3, 5, 2};
        for (int i = 0; i < right.length; i++) {
            Check.due("2: addWard(" + right[i] + ")", t.addWard(right[i]), i);
            Check.due("2: placesOf", t.placesOf(i), right[i]);
            Check.due("2: strawOf a new ward", t.strawOf(i), 0);
            Check.due("2: wards()", t.wards(), i + 1);
        }
        Check.dueThrow("2: a sixth ward", t, STATE, () -> t.addWard(1));
        Check.dueThrow("2: a sixth ward without places", t, ARGUMENT, () -> t.addWard(0));
        Check.dueThrow("2: a sixth ward with 9 places", t, ARGUMENT, () -> t.addWard(9));
    }

    private static void promise3AddBarge() {
        BargeWards t = new BargeWards();
        int[] wrong = {0, -1, 10, Integer.MIN_VALUE, Integer.MAX_VALUE};
        for (int days : wrong) {
            Check.dueThrow("3: addBarge(" + days + ")", t, ARGUMENT, () -> t.addBarge(days));
        }
        int[] right = {1, 9, 4, 2};
        for (int i = 0; i < right.length; i++) {
            Check.due("3: addBarge(" + right[i] + ")", t.addBarge(right[i]), i);
            Check.due("3: keptFor", t.keptFor(i), right[i]);
            Check.due("3: daysToGo of a new barge", t.daysToGo(i), right[i]);
            Check.due("3: barges()", t.barges(), i + 1);
        }
        Check.dueThrow("3: a fifth barge", t, STATE, () -> t.addBarge(1));
        Check.dueThrow("3: a fifth barge for no day", t, ARGUMENT, () -> t.addBarge(0));
        Check.dueThrow("3: a fifth barge for 10 days", t, ARGUMENT, () -> t.addBarge(10));
    }

    private static void promise4Board() {
        BargeWards t = new BargeWards();
        Check.dueThrow("4: board(0, 1) without barges", t, INDEX, () -> t.board(0, 1));
        t.addBarge(3);
        t.addBarge(5);
        Check.dueThrow("4: board(-1, 1)", t, INDEX, () -> t.board(-1, 1));
        Check.dueThrow("4: board(2, 1)", t, INDEX, () -> t.board(2, 1));
        Check.dueThrow("4: board(MAX, 1)", t, INDEX, () -> t.board(Integer.MAX_VALUE, 1));
        Check.dueThrow("4: board(MIN, 1)", t, INDEX, () -> t.board(Integer.MIN_VALUE, 1));
        Check.dueThrow("4: board(2, 10): the index first", t, INDEX, () -> t.board(2, 10));
        Check.dueThrow("4: board(0, -1)", t, ARGUMENT, () -> t.board(0, -1));
        Check.dueThrow("4: board(0, 10)", t, ARGUMENT, () -> t.board(0, 10));
        for (int i = 0; i < 30; i++) {
            Check.due("4: board", t.board(i % 2, i % 10), i);
            Check.due("4: feverOf", t.feverOf(i), i % 10);
            Check.due("4: bargeOf", t.bargeOf(i), i % 2);
            Check.due("4: wardOf", t.wardOf(i), -1);
            Check.due("4: isHome", t.isHome(i), false);
            Check.due("4: hungryDaysOf", t.hungryDaysOf(i), 0);
        }
        Check.dueThrow("4: person 31", t, STATE, () -> t.board(0, 1));
        Check.dueThrow("4: person 31 with fever 10", t, ARGUMENT, () -> t.board(0, 10));
        Check.dueThrow("4: person 31, no such barge", t, INDEX, () -> t.board(2, 1));
    }

    private static void promise4BoardAtTheQuay() {
        BargeWards t = new BargeWards();
        t.addBarge(3);
        t.pass(1);
        t.board(0, 0);
        Check.due("4: off the quay the days to go stay", t.daysToGo(0), 2);
        t.pass(2);
        Check.due("4: at the quay", t.daysToGo(0), 0);
        t.board(0, 2);
        Check.due("4: at the quay it is kept again", t.daysToGo(0), 3);
        t.pass(1);
        t.board(0, 2);
        Check.due("4: and then not again", t.daysToGo(0), 2);
    }

    private static void promise5SetBowls() {
        BargeWards t = new BargeWards();
        Check.due("5: setBowls(0)", t.setBowls(0), 20);
        Check.due("5: setBowls(60)", t.setBowls(60), 0);
        Check.due("5: setBowls(7)", t.setBowls(7), 60);
        Check.due("5: bowls()", t.bowls(), 7);
        Check.dueThrow("5: setBowls(-1)", t, ARGUMENT, () -> t.setBowls(-1));
        Check.dueThrow("5: setBowls(61)", t, ARGUMENT, () -> t.setBowls(61));
        Check.due("5: bowls() still", t.bowls(), 7);
        t.pass(3);
        Check.due("5: from now on", t.bowls(), 7);
    }

    private static void promise6LayStraw() {
        BargeWards t = new BargeWards();
        Check.dueThrow("6: layStraw(0) without wards", t, INDEX, () -> t.layStraw(0));
        t.addWard(2);
        t.addWard(2);
        t.pass(3);
        Check.due("6: layStraw(1)", t.layStraw(1), 3);
        Check.due("6: strawOf(1)", t.strawOf(1), 0);
        Check.due("6: strawOf(0)", t.strawOf(0), 3);
        Check.due("6: layStraw(1) at once again", t.layStraw(1), 0);
        t.pass(1);
        Check.due("6: layStraw(1) a day later", t.layStraw(1), 1);
        Check.dueThrow("6: layStraw(-1)", t, INDEX, () -> t.layStraw(-1));
        Check.dueThrow("6: layStraw(2)", t, INDEX, () -> t.layStraw(2));
    }

    private static void promise7Carry() {
        BargeWards t = new BargeWards();
        t.addBarge(1);
        t.addBarge(9);
        t.addWard(2);
        t.addWard(1);
        t.board(0, 5);
        t.board(0, 5);
        t.board(0, 0);
        t.board(1, 5);
        t.pass(1);
        Check.dueThrow("7: carry(4, 1)", t, INDEX, () -> t.carry(4, 1));
        Check.dueThrow("7: carry(-1, 1)", t, INDEX, () -> t.carry(-1, 1));
        Check.dueThrow("7: carry(0, 2)", t, INDEX, () -> t.carry(0, 2));
        Check.dueThrow("7: carry(0, -1)", t, INDEX, () -> t.carry(0, -1));
        Check.dueThrow("7: carry(2, 2): the index first", t, INDEX, () -> t.carry(2, 2));
        Check.dueThrow("7: who is home", t, STATE, () -> t.carry(2, 1));
        Check.dueThrow("7: who is on a barge", t, STATE, () -> t.carry(3, 1));
        Check.dueThrow("7: to the same ward, which is full", t, STATE, () -> t.carry(0, 0));
        Check.due("7: carry(1, 1)", t.carry(1, 1), 0);
        Check.due("7: wardOf(1)", t.wardOf(1), 1);
        Check.due("7: peopleIn(0)", t.peopleIn(0), 1);
        Check.due("7: peopleIn(1)", t.peopleIn(1), 1);
        Check.due("7: feverOf(1) stays", t.feverOf(1), 5);
        Check.dueThrow("7: into a full ward", t, STATE, () -> t.carry(0, 1));
        Check.dueThrow("7: to the same ward, which has a place", t, STATE, () -> t.carry(0, 0));
        Check.due("7: carry(1, 0)", t.carry(1, 0), 1);
        t.layStraw(0);
        t.pass(5);
        Check.due("7: home by now", t.isHome(0), true);
        Check.dueThrow("7: who went home from a ward", t, STATE, () -> t.carry(0, 1));
    }

    private static void promise7CarriedPeopleEatByTheirNewWard() {
        BargeWards t = new BargeWards();
        t.addBarge(1);
        t.addWard(2);
        t.addWard(2);
        t.board(0, 5);
        t.board(0, 5);
        t.pass(1);
        t.setBowls(1);
        t.carry(0, 1);
        t.pass(1);
        Check.due("7: the bowl goes to ward 0 now", t.feverOf(1), 4);
        Check.due("7: and none to ward 1", t.feverOf(0), 6);
    }

    private static void promise8Pass() {
        BargeWards t = new BargeWards();
        int[] wrong = {0, -1, 41, Integer.MIN_VALUE, Integer.MAX_VALUE};
        for (int days : wrong) {
            Check.dueThrow("8: pass(" + days + ")", t, ARGUMENT, () -> t.pass(days));
        }
        t.addWard(8);
        t.addBarge(1);
        t.board(0, 0);
        t.board(0, 1);
        t.board(0, 2);
        Check.due("8: pass(1): one from the barge", t.pass(1), 1);
        Check.due("8: pass(1): one from the ward", t.pass(1), 1);
        Check.due("8: pass(40)", t.pass(40), 1);
        Check.due("8: day()", t.day(), 42);
        Check.due("8: pass(1)", t.pass(1), 0);
    }

    private static void promise8PassCountsOnlyThoseWhoGoHomeNow() {
        BargeWards t = new BargeWards();
        t.addWard(2);
        t.addBarge(1);
        t.board(0, 9);
        t.setBowls(0);
        Check.due("8: to the great house is not home", t.pass(2), 0);
        Check.due("8: it is the great house", t.isInGreatHouse(0), true);
        t.board(0, 0);
        Check.due("8: home from the barge counts", t.pass(1), 1);
    }

    private static void objectsAreApart() {
        BargeWards a = new BargeWards();
        BargeWards b = new BargeWards();
        a.addWard(3);
        a.addBarge(2);
        a.board(0, 4);
        a.setBowls(3);
        a.pass(5);
        Check.due("two objects: digest()", b.digest(), new BargeWards().digest());
    }
}
