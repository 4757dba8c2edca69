/** Promises 23 to 32: what there is in the town. */
public final class WhatThereIsTest {
    private WhatThereIsTest() {
    }

    public static void main(String[] args) {
        inAnEmptyTown();
        promises23To27();
        promise28FreePlaces();
        promise29BowlsShort();
        promises30And31HomeAndGreatHouse();
        promise32BowlsEaten();
        Check.finish("WhatThereIsTest");
    }

    private static void inAnEmptyTown() {
        BargeWards t = new BargeWards();
        t.setBowls(0);
        Check.due("28: freePlaces() without wards", t.freePlaces(), 0);
        Check.due("29: bowlsShort() without people", t.bowlsShort(), 0);
        Check.due("30: peopleHome() without people", t.peopleHome(), 0);
        Check.due("31: peopleInGreatHouse() without people", t.peopleInGreatHouse(), 0);
        t.pass(10);
        Check.due("32: bowlsEaten() without people", t.bowlsEaten(), 0);
    }

    private static void promises23To27() {
        BargeWards t = new BargeWards();
        t.addWard(1);
        t.addWard(1);
        t.addWard(1);
        t.addBarge(1);
        t.addBarge(2);
        t.board(0, 0);
        t.board(0, 9);
        t.board(1, 0);
        t.board(1, 0);
        t.setBowls(0);
        t.pass(5);
        Check.due("23: day()", t.day(), 5);
        Check.due("24: wards()", t.wards(), 3);
        Check.due("25: barges()", t.barges(), 2);
        Check.due("26: people() with those at home and in the great house", t.people(), 4);
        Check.due("26: of whom some are there", t.peopleHome() + t.peopleInGreatHouse(), 4);
        Check.due("27: bowls()", t.bowls(), 0);
        t.setBowls(33);
        Check.due("27: bowls()", t.bowls(), 33);
    }

    private static void promise28FreePlaces() {
        BargeWards t = new BargeWards();
        t.addWard(3);
        t.addWard(4);
        Check.due("28: freePlaces()", t.freePlaces(), 7);
        t.addBarge(1);
        t.board(0, 1);
        t.board(0, 5);
        t.board(0, 5);
        t.board(0, 5);
        Check.due("28: people on barges take none", t.freePlaces(), 7);
        t.pass(1);
        Check.due("28: four are taken", t.freePlaces(), 3);
        t.carry(1, 1);
        Check.due("28: carrying changes nothing", t.freePlaces(), 3);
        t.pass(1);
        Check.due("28: one went home", t.freePlaces(), 4);
    }

    private static void promise29BowlsShort() {
        BargeWards t = new BargeWards();
        t.addWard(2);
        t.addWard(2);
        t.addBarge(1);
        t.addBarge(9);
        t.board(0, 5);
        t.board(0, 5);
        t.board(0, 5);
        t.board(1, 5);
        t.setBowls(0);
        Check.due("29: people on barges are not fed", t.bowlsShort(), 0);
        t.pass(1);
        Check.due("29: bowlsShort() without bowls", t.bowlsShort(), 3);
        t.setBowls(2);
        Check.due("29: bowlsShort() with 2", t.bowlsShort(), 1);
        t.setBowls(3);
        Check.due("29: bowlsShort() with just enough", t.bowlsShort(), 0);
        t.setBowls(60);
        Check.due("29: bowlsShort() with plenty", t.bowlsShort(), 0);
    }

    private static void promises30And31HomeAndGreatHouse() {
        BargeWards t = new BargeWards();
        t.addWard(8);
        t.addBarge(1);
        t.board(0, 0);
        t.board(0, 0);
        t.board(0, 1);
        t.board(0, 9);
        Check.due("30: peopleHome() at first", t.peopleHome(), 0);
        t.pass(1);
        Check.due("30: peopleHome() from the barge", t.peopleHome(), 2);
        Check.due("31: peopleInGreatHouse()", t.peopleInGreatHouse(), 0);
        t.setBowls(1);
        t.pass(1);
        Check.due("30: peopleHome() from the ward", t.peopleHome(), 3);
        Check.due("31: peopleInGreatHouse() of the hungry", t.peopleInGreatHouse(), 1);
        t.pass(30);
        Check.due("30: peopleHome() later", t.peopleHome(), 3);
        Check.due("31: peopleInGreatHouse() later", t.peopleInGreatHouse(), 1);
    }

    private static void promise32BowlsEaten() {
        BargeWards t = new BargeWards();
        t.addWard(8);
        t.addBarge(1);
        t.board(0, 2);
        t.board(0, 5);
        t.board(0, 5);
        t.pass(1);
        Check.due("32: on the day of landing none", t.bowlsEaten(), 0);
        t.pass(1);
        Check.due("32: one for each in wards, not all 20", t.bowlsEaten(), 3);
        t.setBowls(2);
        t.pass(1);
        Check.due("32: not more than there are", t.bowlsEaten(), 5);
        t.setBowls(0);
        t.pass(1);
        Check.due("32: none", t.bowlsEaten(), 5);
        t.homeAfter(10);
        t.bestStraw(10);
        Check.due("32: not those that would be", t.bowlsEaten(), 5);
    }
}
