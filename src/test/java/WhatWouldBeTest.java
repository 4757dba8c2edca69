/** Promises 33 to 39: what would be, the mean fever and the digest. */
public final class WhatWouldBeTest {
    private static final Class<?> INDEX = IndexOutOfBoundsException.class;
    private static final Class<?> ARGUMENT = IllegalArgumentException.class;

    private WhatWouldBeTest() {
    }

    public static void main(String[] args) {
        wrongInputs();
        promise33DaysUntilHome();
        promise33LongestWaits();
        promise33KeptAgain();
        promise34HomeAfter();
        promise35GreatHouseAfter();
        promise36BestStraw();
        promise36FreshStrawIsNoDayOld();
        promise36OfSeveralTheSmallest();
        promise36TheMostWins();
        promise36FreshStrawThatHarms();
        nothingIsChanged();
        promise37BowlsNeeded();
        promise38MeanFever();
        promise39DigestOfANewTown();
        promise39DigestByHand();
        Check.finish("WhatWouldBeTest");
    }

    private static void wrongInputs() {
        BargeWards t = new BargeWards();
        t.addWard(2);
        t.addBarge(1);
        t.board(0, 3);
        int[] wrong = {0, -1, 41, Integer.MIN_VALUE, Integer.MAX_VALUE};
        for (int d : wrong) {
            Check.dueThrow("34: homeAfter(" + d + ")", t, ARGUMENT, () -> t.homeAfter(d));
            Check.dueThrow("35: greatHouseAfter(" + d + ")", t, ARGUMENT, () -> t.greatHouseAfter(d));
            Check.dueThrow("36: bestStraw(" + d + ")", t, ARGUMENT, () -> t.bestStraw(d));
        }
        int[] nobody = {-1, 1, 30, Integer.MIN_VALUE, Integer.MAX_VALUE};
        for (int p : nobody) {
            Check.dueThrow("33: daysUntilHome(" + p + ")", t, INDEX, () -> t.daysUntilHome(p));
        }
        BargeWards empty = new BargeWards();
        Check.dueThrow("33: daysUntilHome(0) without people", empty, INDEX, () -> empty.daysUntilHome(0));
        Check.dueThrow("36: bestStraw(0) without wards", empty, ARGUMENT, () -> empty.bestStraw(0));
        Check.due("36: bestStraw(40) without wards", empty.bestStraw(40), -1);
        Check.due("34: homeAfter(40) without people", empty.homeAfter(40), 0);
        Check.due("35: greatHouseAfter(1) without people", empty.greatHouseAfter(1), 0);
    }

    private static void promise33DaysUntilHome() {
        BargeWards t = new BargeWards();
        t.addWard(8);
        t.addBarge(1);
        t.addBarge(4);
        t.board(0, 0);
        t.board(0, 3);
        t.board(0, 9);
        t.board(1, 0);
        Check.due("33: from the barge", t.daysUntilHome(0), 1);
        Check.due("33: from the ward: 1 and 3 days", t.daysUntilHome(1), 4);
        // Fever 9: fed on straw of 1 to 4 days it falls to 5, then it rises to 10.
        Check.due("33: to the great house", t.daysUntilHome(2), -1);
        Check.due("33: kept for 4 days", t.daysUntilHome(3), 4);
        t.pass(1);
        Check.due("33: at home now", t.daysUntilHome(0), 0);
        Check.due("33: a day later one less", t.daysUntilHome(1), 3);
        t.setBowls(0);
        t.pass(1);
        Check.due("33: in the great house now", t.daysUntilHome(2), -1);
        Check.due("33: hungry for good", t.daysUntilHome(1), -1);
    }

    /**
     * Straw is old by the fifth day and a barge is kept for at most 9, so if nothing else is done
     * nobody gets home behind more than 9 days: the 60 of the document only ends the search.
     */
    private static void promise33LongestWaits() {
        for (int kept = 1; kept <= 9; kept++) {
            BargeWards t = new BargeWards();
            t.addBarge(kept);
            t.board(0, 0);
            for (int waited = 0; waited < kept; waited++) {
                Check.due("33: daysUntilHome counts down", t.daysUntilHome(0), kept - waited);
                t.pass(1);
            }
            Check.due("33: and is 0 then", t.daysUntilHome(0), 0);
        }
        BargeWards noWard = new BargeWards();
        noWard.addBarge(9);
        noWard.board(0, 1);
        Check.due("33: without a ward never", noWard.daysUntilHome(0), -1);
    }

    /** Person 1 finds the ward full, is kept again, and lands two days later. */
    private static void promise33KeptAgain() {
        BargeWards t = new BargeWards();
        t.addWard(1);
        t.addBarge(1);
        t.addBarge(2);
        t.board(0, 2);
        t.board(1, 1);
        Check.due("33: who lands first", t.daysUntilHome(0), 3);
        Check.due("33: who is kept again", t.daysUntilHome(1), 5);
    }

    private static void promise34HomeAfter() {
        BargeWards t = new BargeWards();
        t.addWard(8);
        t.addBarge(1);
        t.board(0, 0);
        t.board(0, 2);
        t.board(0, 4);
        t.board(0, 9);
        Check.due("34: homeAfter(1)", t.homeAfter(1), 1);
        Check.due("34: homeAfter(2)", t.homeAfter(2), 1);
        Check.due("34: homeAfter(3)", t.homeAfter(3), 2);
        Check.due("34: homeAfter(5)", t.homeAfter(5), 3);
        Check.due("34: homeAfter(40)", t.homeAfter(40), 3);
        t.pass(3);
        Check.due("34: with those at home now", t.homeAfter(1), 2);
        Check.due("34: with those at home now", t.homeAfter(2), 3);
        Check.due("34: day() stays", t.day(), 3);
    }

    private static void promise35GreatHouseAfter() {
        BargeWards t = new BargeWards();
        t.addWard(8);
        t.addBarge(1);
        t.board(0, 9);
        t.board(0, 8);
        t.board(0, 1);
        t.setBowls(0);
        Check.due("35: greatHouseAfter(1)", t.greatHouseAfter(1), 0);
        Check.due("35: greatHouseAfter(2)", t.greatHouseAfter(2), 1);
        Check.due("35: greatHouseAfter(3)", t.greatHouseAfter(3), 2);
        Check.due("35: greatHouseAfter(9)", t.greatHouseAfter(9), 2);
        Check.due("35: greatHouseAfter(10)", t.greatHouseAfter(10), 3);
        t.pass(2);
        Check.due("35: with those there now", t.greatHouseAfter(1), 2);
        Check.due("35: nothing is changed", t.peopleInGreatHouse(), 1);
        t.setBowls(20);
        Check.due("35: with bowls", t.greatHouseAfter(1), 1);
    }

    private static void promise36BestStraw() {
        BargeWards t = oneOldWard();
        Check.due("36: bestStraw(1), too short", t.bestStraw(1), -1);
        Check.due("36: bestStraw(2), too short", t.bestStraw(2), -1);
        Check.due("36: bestStraw(3), just enough", t.bestStraw(3), 1);
        Check.due("36: bestStraw(40)", t.bestStraw(40), 1);
        Check.due("36: nothing is changed", t.strawOf(1), 6);
        t.layStraw(1);
        Check.due("36: it is fresh now", t.bestStraw(40), -1);
    }

    /** Straw of 6 days in both wards, and a person with a fever of 3 in ward 1. */
    private static BargeWards oneOldWard() {
        BargeWards t = new BargeWards();
        t.addWard(1);
        t.addWard(1);
        t.addBarge(1);
        t.pass(5);
        t.board(0, 3);
        t.pass(1);
        t.carry(0, 1);
        return t;
    }

    /** Fresh straw helps for five days: a fever of 5 goes, one of 6 does not. */
    private static void promise36FreshStrawIsNoDayOld() {
        BargeWards t = new BargeWards();
        t.addWard(1);
        t.addWard(1);
        t.addBarge(1);
        t.pass(5);
        t.board(0, 6);
        t.board(0, 5);
        t.pass(1);
        Check.due("36: bestStraw(4), a day too short for a fever of 5", t.bestStraw(4), -1);
        Check.due("36: bestStraw(5) for a fever of 5, not of 6", t.bestStraw(5), 1);
        t.layStraw(1);
        Check.due("36: a fever of 6 stays too long", t.bestStraw(40), -1);
    }

    private static void promise36OfSeveralTheSmallest() {
        BargeWards t = new BargeWards();
        t.addWard(1);
        t.addWard(1);
        t.addWard(1);
        t.addBarge(1);
        t.pass(5);
        t.board(0, 9);
        t.board(0, 3);
        t.board(0, 3);
        t.pass(1);
        Check.due("36: wards 1 and 2 help as much", t.bestStraw(3), 1);
        Check.due("36: ward 0 helps none", t.homeAfter(40), 0);
    }

    private static void promise36TheMostWins() {
        BargeWards t = new BargeWards();
        t.addWard(1);
        t.addWard(2);
        t.addWard(1);
        t.addBarge(1);
        t.pass(5);
        for (int i = 0; i < 4; i++) {
            t.board(0, 2);
        }
        t.pass(1);
        Check.due("36: ward 1 helps two, the others one", t.bestStraw(2), 1);
        t.layStraw(1);
        Check.due("36: wards 0 and 2 help one", t.bestStraw(2), 0);
    }

    /** On fresh straw person 0 would live longer and eat the only bowl of person 1. */
    private static void promise36FreshStrawThatHarms() {
        BargeWards t = new BargeWards();
        t.addWard(1);
        t.addBarge(1);
        t.pass(4);
        t.addWard(1);
        t.board(0, 9);
        t.board(0, 2);
        t.pass(1);
        t.layStraw(1);
        t.setBowls(1);
        Check.due("36: without fresh straw", t.homeAfter(4), 1);
        Check.due("36: fresh straw in ward 1 is nothing new", t.bestStraw(4), -1);
        t.layStraw(0);
        Check.due("36: with fresh straw in ward 0", t.homeAfter(4), 0);
    }

    private static void nothingIsChanged() {
        BargeWards t = oneOldWard();
        t.addBarge(3);
        t.board(1, 4);
        t.board(1, 0);
        t.setBowls(1);
        long before = t.digest();
        t.daysUntilHome(0);
        t.daysUntilHome(2);
        t.homeAfter(40);
        t.greatHouseAfter(40);
        t.bestStraw(40);
        Check.due("33 to 36: nothing is changed", t.digest(), before);
        Check.due("33 to 36: daysToGo", t.daysToGo(1), 3);
        int foretold = t.homeAfter(7);
        int home = t.peopleHome();
        Check.due("34: as foretold", t.pass(7) + home, foretold);
        Check.due("34: as foretold", t.peopleHome(), foretold);
    }

    private static void promise37BowlsNeeded() {
        BargeWards t = new BargeWards();
        Check.due("37: bowlsNeeded() without people", t.bowlsNeeded(), 0);
        t.addWard(2);
        t.addWard(2);
        t.addBarge(1);
        for (int i = 0; i < 6; i++) {
            t.board(0, 5);
        }
        Check.due("37: none for those on barges", t.bowlsNeeded(), 0);
        t.pass(1);
        Check.due("37: one for each in wards", t.bowlsNeeded(), 4);
        t.setBowls(t.bowlsNeeded());
        Check.due("37: with them nobody would be hungry", t.bowlsShort(), 0);
        t.setBowls(t.bowlsNeeded() - 1);
        Check.due("37: with one less somebody would", t.bowlsShort(), 1);
        t.setBowls(0);
        t.pass(5);
        Check.due("37: the great house has its own", t.bowlsNeeded(), 2);
    }

    private static void promise38MeanFever() {
        BargeWards t = new BargeWards();
        Check.dueDouble("38: meanFever() without people", t.meanFever(), 0.0);
        t.addWard(2);
        t.addWard(2);
        t.addBarge(1);
        t.board(0, 9);
        t.board(0, 1);
        t.board(0, 4);
        t.board(0, 0);
        Check.dueDouble("38: nobody in wards", t.meanFever(), 0.0);
        t.pass(1);
        Check.dueDouble("38: three in two wards", t.meanFever(), 14.0 / 3.0);
        t.pass(1);
        Check.dueDouble("38: one went home", t.meanFever(), 5.5);
        t.pass(2);
        Check.dueDouble("38: two left", t.meanFever(), 3.5);
        t.pass(1);
        Check.dueDouble("38: one left", t.meanFever(), 5.0);
    }

    private static void promise39DigestOfANewTown() {
        long d = 1877;
        int[] numbers = {0, 0, 0, 0, 20, 0};
        for (int x : numbers) {
            d = d * 31 + x;
        }
        Check.due("39: digest() of a new town", new BargeWards().digest(), d);
    }

    private static void promise39DigestByHand() {
        BargeWards t = new BargeWards();
        t.addWard(2);
        t.addWard(3);
        t.addBarge(1);
        t.addBarge(6);
        t.board(0, 0);
        t.board(0, 9);
        t.board(0, 2);
        t.board(0, 5);
        t.board(1, 1);
        t.pass(1);
        t.setBowls(2);
        t.carry(1, 1);
        t.layStraw(1);
        t.pass(1);
        // Ward 0 has person 2; ward 1 has 1 and 3, of whom 1 eats and 3 is hungry.
        int[] numbers = {
            2, 2, 2, 5, 2, 2,
            2, 1, 2, 1,
            3, 2, 1, 14,
            0, 1, 0,
            4, 6, 1,
            0, -1, -1, 1, 0, 0,
            8, 1, -1, 0, 0, 0,
            1, 0, -1, 0, 0, 0,
            6, 1, -1, 0, 0, 1,
            1, -1, 1, 0, 0, 0,
        };
        long d = 1877;
        for (int x : numbers) {
            d = d * 31 + x;
        }
        Check.due("39: digest()", t.digest(), d);
        t.setBowls(0);
        t.pass(4);
        Check.due("39: somebody is in the great house", t.isInGreatHouse(1), true);
        Check.due("39: digest() by the answers", t.digest(), digestOfAnswers(t));
    }

    private static long digestOfAnswers(BargeWards t) {
        long d = 1877;
        d = d * 31 + t.day();
        d = d * 31 + t.wards();
        d = d * 31 + t.barges();
        d = d * 31 + t.people();
        d = d * 31 + t.bowls();
        d = d * 31 + t.bowlsEaten();
        for (int w = 0; w < t.wards(); w++) {
            d = (((d * 31 + t.placesOf(w)) * 31 + t.peopleIn(w)) * 31 + t.strawOf(w)) * 31 + t.feversIn(w);
        }
        for (int b = 0; b < t.barges(); b++) {
            d = ((d * 31 + t.daysToGo(b)) * 31 + t.keptFor(b)) * 31 + t.peopleOn(b);
        }
        for (int p = 0; p < t.people(); p++) {
            d = ((d * 31 + t.feverOf(p)) * 31 + t.wardOf(p)) * 31 + t.bargeOf(p);
            d = (d * 31 + (t.isHome(p) ? 1 : 0)) * 31 + (t.isInGreatHouse(p) ? 1 : 0);
            d = d * 31 + t.hungryDaysOf(p);
        }
        return d;
    }
}
