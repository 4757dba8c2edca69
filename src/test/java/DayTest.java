/** The seven steps of a day, each with its edges, and their order (promise 8 and the terms). */
public final class DayTest {
    private DayTest() {
    }

    public static void main(String[] args) {
        step1BowlsGoWardByWard();
        step1BowlsGoByNumbersInAWard();
        step2FeverFallsAndRises();
        step2StrawOfFourAndFiveDays();
        step2FeverIsAtMostTen();
        step3FeverSpreadsOnABarge();
        step3NotOnABargeThatComesToTheQuay();
        step3FeverIsAtMostTen();
        step3EachBargeByItself();
        step4Straw();
        step5WardsAreLeft();
        step6WardsByNumbers();
        step6WhoStaysKeepsTheBarge();
        step6PlacesFreedTheSameDay();
        step6BargesByNumbers();
        step7Day();
        Check.finish("DayTest");
    }

    /** A town with one barge kept for a day, whose people come ashore on the first day. */
    private static BargeWards landed(int[] places, int[] fevers) {
        BargeWards t = new BargeWards();
        for (int p : places) {
            t.addWard(p);
        }
        t.addBarge(1);
        for (int fever : fevers) {
            t.board(0, fever);
        }
        t.pass(1);
        return t;
    }

    private static void step1BowlsGoWardByWard() {
        BargeWards t = landed(new int[] {1, 2}, new int[] {5, 5, 5});
        t.addWard(1);
        t.carry(0, 2);
        t.setBowls(2);
        t.pass(1);
        Check.due("step 1: ward 1 eats", t.feverOf(1), 4);
        Check.due("step 1: ward 1 eats", t.feverOf(2), 4);
        Check.due("step 1: ward 2 is last", t.feverOf(0), 6);
        Check.due("step 1: hungryDaysOf(0)", t.hungryDaysOf(0), 1);
        Check.due("step 1: hungryDaysOf(1)", t.hungryDaysOf(1), 0);
        Check.due("step 1: bowlsEaten()", t.bowlsEaten(), 2);
    }

    private static void step1BowlsGoByNumbersInAWard() {
        BargeWards t = landed(new int[] {3, 3}, new int[] {5, 5, 5});
        t.carry(0, 1);
        t.carry(0, 0);
        t.setBowls(2);
        t.pass(1);
        Check.due("step 1: by numbers, not by coming", t.feverOf(0), 4);
        Check.due("step 1: by numbers", t.feverOf(1), 4);
        Check.due("step 1: the last one is hungry", t.feverOf(2), 6);
        t.setBowls(3);
        t.pass(1);
        Check.due("step 1: enough for all", t.feverOf(2), 5);
        Check.due("step 1: hungry only once", t.hungryDaysOf(2), 1);
        Check.due("step 1: bowlsEaten()", t.bowlsEaten(), 5);
    }

    private static void step2FeverFallsAndRises() {
        BargeWards t = landed(new int[] {8}, new int[] {5, 9, 1});
        t.pass(1);
        Check.due("step 2: 5 to 4", t.feverOf(0), 4);
        Check.due("step 2: 9 to 8", t.feverOf(1), 8);
        Check.due("step 2: 1 to 0", t.feverOf(2), 0);
        t.setBowls(0);
        t.pass(1);
        Check.due("step 2: 4 to 5, hungry", t.feverOf(0), 5);
        Check.due("step 2: 8 to 9, hungry", t.feverOf(1), 9);
        Check.due("step 2: at home nothing changes", t.feverOf(2), 0);
        Check.due("step 2: at home nobody is hungry", t.hungryDaysOf(2), 0);
    }

    private static void step2StrawOfFourAndFiveDays() {
        BargeWards t = landed(new int[] {8}, new int[] {9});
        t.pass(3);
        Check.due("step 2: straw is 4 days old", t.strawOf(0), 4);
        Check.due("step 2: fever so far", t.feverOf(0), 6);
        t.pass(1);
        Check.due("step 2: 4 days old ahead of step 4 is not old", t.feverOf(0), 5);
        t.pass(1);
        Check.due("step 2: 5 days old is old", t.feverOf(0), 6);
        Check.due("step 2: fed all the same", t.hungryDaysOf(0), 0);
        Check.due("step 2: bowlsEaten() with old straw", t.bowlsEaten(), 5);
        t.pass(1);
        Check.due("step 2: 6 days old is old", t.feverOf(0), 7);
        t.setBowls(0);
        t.pass(1);
        Check.due("step 2: hungry on old straw is 1 more, not 2", t.feverOf(0), 8);
        t.setBowls(20);
        t.layStraw(0);
        t.pass(1);
        Check.due("step 2: fresh straw again", t.feverOf(0), 7);
    }

    private static void step2FeverIsAtMostTen() {
        BargeWards t = new BargeWards();
        t.addBarge(3);
        t.board(0, 9);
        t.board(0, 9);
        t.pass(2);
        t.addWard(2);
        t.pass(1);
        Check.due("step 2: lands with a fever of 10", t.feverOf(0), 10);
        Check.due("step 2: in the ward", t.wardOf(0), 0);
        t.setBowls(1);
        t.pass(1);
        Check.due("step 2: a fever of 10, fed, is 9", t.feverOf(0), 9);
        Check.due("step 2: and stays in the ward", t.wardOf(0), 0);
        Check.due("step 2: a fever of 10, hungry, is 10", t.feverOf(1), 10);
        Check.due("step 2: and goes to the great house", t.isInGreatHouse(1), true);
    }

    private static void step3FeverSpreadsOnABarge() {
        BargeWards t = new BargeWards();
        t.addBarge(9);
        t.addBarge(9);
        t.addBarge(9);
        t.board(0, 0);
        t.board(0, 3);
        t.board(0, 0);
        t.board(1, 4);
        t.board(2, 0);
        t.board(2, 0);
        t.pass(1);
        Check.due("step 3: catches it", t.feverOf(0), 1);
        Check.due("step 3: the only one with a fever keeps it", t.feverOf(1), 3);
        Check.due("step 3: catches it", t.feverOf(2), 1);
        Check.due("step 3: alone on a barge", t.feverOf(3), 4);
        Check.due("step 3: none has a fever", t.feverOf(4), 0);
        t.pass(1);
        Check.due("step 3: the others have one now", t.feverOf(1), 4);
        Check.due("step 3: 1 more, not one for each", t.feverOf(0), 2);
        Check.due("step 3: bowls are not for barges", t.bowlsEaten(), 0);
    }

    private static void step3NotOnABargeThatComesToTheQuay() {
        BargeWards t = new BargeWards();
        t.addBarge(1);
        t.addBarge(2);
        t.board(0, 0);
        t.board(0, 5);
        t.board(1, 0);
        t.board(1, 5);
        t.addWard(8);
        t.pass(1);
        Check.due("step 3: at the quay none catches it", t.isHome(0), true);
        Check.due("step 3: nor has more", t.feverOf(1), 5);
        Check.due("step 3: a day off the quay", t.feverOf(2), 1);
        t.pass(1);
        Check.due("step 3: came to the quay without more", t.feverOf(2), 1);
        Check.due("step 3: into the ward, not home", t.wardOf(2), 0);
    }

    private static void step3FeverIsAtMostTen() {
        BargeWards t = new BargeWards();
        t.addBarge(9);
        t.board(0, 9);
        t.board(0, 8);
        t.pass(3);
        Check.due("step 3: at most 10", t.feverOf(0), 10);
        Check.due("step 3: at most 10", t.feverOf(1), 10);
        Check.due("step 3: still on the barge with 10", t.bargeOf(0), 0);
    }

    private static void step3EachBargeByItself() {
        BargeWards t = new BargeWards();
        t.addBarge(5);
        t.addBarge(5);
        t.addWard(5);
        t.board(0, 6);
        t.board(1, 0);
        t.pass(4);
        Check.due("step 3: not from barge to barge", t.feverOf(1), 0);
        Check.due("step 3: daysToGo", t.daysToGo(0), 1);
        t.pass(1);
        Check.due("step 3: daysToGo", t.daysToGo(0), 0);
        t.pass(3);
        Check.due("step 3: at the quay the days stay 0", t.daysToGo(0), 0);
    }

    private static void step4Straw() {
        BargeWards t = new BargeWards();
        t.addWard(1);
        t.pass(2);
        t.addWard(1);
        t.pass(40);
        Check.due("step 4: in an empty ward too", t.strawOf(0), 42);
        Check.due("step 4: from the ward's first day on", t.strawOf(1), 40);
    }

    private static void step5WardsAreLeft() {
        BargeWards t = landed(new int[] {3}, new int[] {1, 9, 1});
        t.setBowls(1);
        t.pass(1);
        Check.due("step 5: home", t.isHome(0), true);
        Check.due("step 5: great house", t.isInGreatHouse(1), true);
        Check.due("step 5: stays", t.wardOf(2), 0);
        Check.due("step 5: wardOf who is home", t.wardOf(0), -1);
        Check.due("step 5: bargeOf who is home", t.bargeOf(0), -1);
        Check.due("step 5: wardOf in the great house", t.wardOf(1), -1);
        Check.due("step 5: feverOf in the great house", t.feverOf(1), 10);
        t.pass(10);
        Check.due("step 5: nobody comes back", t.isInGreatHouse(1), true);
        Check.due("step 5: nobody comes back", t.isHome(0), true);
        Check.due("step 5: the fever there stays", t.feverOf(1), 10);
    }

    private static void step6WardsByNumbers() {
        BargeWards t = landed(new int[] {1, 2, 4}, new int[] {3, 0, 4, 5, 6});
        Check.due("step 6: wardOf(0)", t.wardOf(0), 0);
        Check.due("step 6: isHome(1)", t.isHome(1), true);
        Check.due("step 6: wardOf(2)", t.wardOf(2), 1);
        Check.due("step 6: wardOf(3)", t.wardOf(3), 1);
        Check.due("step 6: wardOf(4)", t.wardOf(4), 2);
        Check.due("step 6: landing alone changes no fever", t.feverOf(4), 6);
        Check.due("step 6: nobody ate on the day of landing", t.bowlsEaten(), 0);
        Check.due("step 6: the empty barge stays at the quay", t.daysToGo(0), 0);
    }

    private static void step6WhoStaysKeepsTheBarge() {
        BargeWards t = new BargeWards();
        t.addWard(1);
        t.addBarge(2);
        t.board(0, 2);
        t.board(0, 2);
        t.board(0, 9);
        t.pass(2);
        Check.due("step 6: one lands", t.wardOf(0), 0);
        Check.due("step 6: two stay", t.peopleOn(0), 2);
        Check.due("step 6: kept again", t.daysToGo(0), 2);
        Check.due("step 6: keptFor", t.keptFor(0), 2);
        t.pass(1);
        Check.due("step 6: they go on catching it", t.feverOf(1), 4);
        Check.due("step 6: at most 10", t.feverOf(2), 10);
        t.pass(1);
        Check.due("step 6: no place yet", t.bargeOf(1), 0);
        Check.due("step 6: kept a third time", t.daysToGo(0), 2);
    }

    private static void step6PlacesFreedTheSameDay() {
        BargeWards t = landed(new int[] {1}, new int[] {1});
        t.board(0, 7);
        t.pass(1);
        Check.due("step 6: home ahead of step 6", t.isHome(0), true);
        Check.due("step 6: the place is free the same day", t.wardOf(1), 0);
        t.board(0, 0);
        t.board(0, 5);
        t.pass(1);
        Check.due("step 6: without a fever home, even if wards are full", t.isHome(2), true);
        Check.due("step 6: with one not", t.bargeOf(3), 0);
        Check.due("step 6: kept again for one who stays", t.daysToGo(0), 1);
    }

    private static void step6BargesByNumbers() {
        BargeWards t = new BargeWards();
        t.addWard(1);
        t.addBarge(1);
        t.addBarge(1);
        t.board(1, 4);
        t.board(0, 4);
        t.pass(1);
        Check.due("step 6: barge 0 first, though its person is later", t.wardOf(1), 0);
        Check.due("step 6: barge 1 is kept", t.bargeOf(0), 1);
        Check.due("step 6: daysToGo(0)", t.daysToGo(0), 0);
        Check.due("step 6: daysToGo(1)", t.daysToGo(1), 1);
    }

    private static void step7Day() {
        BargeWards t = new BargeWards();
        for (int i = 1; i <= 10; i++) {
            t.pass(i);
        }
        Check.due("step 7: day()", t.day(), 55);
    }
}
