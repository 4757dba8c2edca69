/** Promises 23 to 32: what there is in the town, from none to the most. */
final class BoundariesOfWhatThereIs {
    private BoundariesOfWhatThereIs() {
    }

    static void run(Sentences s) {
        s.promise(23, "Returns how many days went by.", BoundariesOfWhatThereIs::promise23DaysThatWentBy);
        s.promise(24, "Returns how many wards there are.", BoundariesOfWhatThereIs::promise24From0To5);
        s.promise(25, "Returns how many barges there are.", BoundariesOfWhatThereIs::promise25From0To4);
        s.promise(26, "Returns how many people there are", BoundariesOfWhatThereIs::promise26From0To30);
        s.promise(26, "with those at home and in the great house", BoundariesOfWhatThereIs::promise26WithThoseWhoLeft);
        s.promise(27, "Returns how many bowls the kitchen has for a day.",
            BoundariesOfWhatThereIs::promise27From0To60);
        s.promise(28, "Returns how many places in wards are free.", BoundariesOfWhatThereIs::promise28NoneToAll);
        s.promise(29, "Returns how many people in wards would be hungry today.",
            BoundariesOfWhatThereIs::promise29AroundTheBowls);
        s.promise(29, "people in wards would be hungry", BoundariesOfWhatThereIs::promise29OnlyThoseInWards);
        s.promise(29, "would be hungry today", BoundariesOfWhatThereIs::promise29AsTheDayGoes);
        s.promise(30, "Returns how many people are at home.", BoundariesOfWhatThereIs::promise30NoneToAll);
        s.promise(31, "Returns how many people are in the great house.",
            BoundariesOfWhatThereIs::promise31NoneToAll);
        s.promise(32, "Returns how many bowls were eaten in all.", BoundariesOfWhatThereIs::promise32EatenInAll);
        s.promise(32, "were eaten", BoundariesOfWhatThereIs::promise32NotWhatWouldBeEaten);
    }

    private static void promise23DaysThatWentBy() {
        BargeWards t = new BargeWards();
        Check.due("day() at first", t.day(), 0);
        t.pass(1);
        Check.due("day() behind pass(1)", t.day(), 1);
        t.pass(40);
        Check.due("day() behind pass(40)", t.day(), 41);
        Check.dueThrow("pass(0)", t, Towns.ARGUMENT, () -> t.pass(0));
        Check.dueThrow("pass(41)", t, Towns.ARGUMENT, () -> t.pass(41));
        t.homeAfter(40);
        t.greatHouseAfter(40);
        t.bestStraw(40);
        Check.due("day() behind refused calls and questions", t.day(), 41);
    }

    private static void promise24From0To5() {
        BargeWards t = Towns.withBarges(1, 1);
        for (int wards = 0; wards <= 5; wards++) {
            Check.due("wards()", t.wards(), wards);
            Check.dueThrow("addWard(0)", t, Towns.ARGUMENT, () -> t.addWard(0));
            Check.due("wards() behind a refused one", t.wards(), wards);
            if (wards < 5) {
                t.addWard(1);
            }
        }
        Check.dueThrow("addWard(1)", t, Towns.STATE, () -> t.addWard(1));
        Check.due("wards() behind a sixth", t.wards(), 5);
    }

    private static void promise25From0To4() {
        BargeWards t = Towns.withWards(1, 1, 1);
        for (int barges = 0; barges <= 4; barges++) {
            Check.due("barges()", t.barges(), barges);
            Check.dueThrow("addBarge(0)", t, Towns.ARGUMENT, () -> t.addBarge(0));
            Check.due("barges() behind a refused one", t.barges(), barges);
            if (barges < 4) {
                t.addBarge(1);
            }
        }
        Check.dueThrow("addBarge(1)", t, Towns.STATE, () -> t.addBarge(1));
        Check.due("barges() behind a fifth", t.barges(), 4);
    }

    private static void promise26From0To30() {
        BargeWards t = Towns.withBarges(1, 9);
        for (int people = 0; people <= 30; people++) {
            Check.due("people()", t.people(), people);
            Check.dueThrow("board(1, 10)", t, Towns.ARGUMENT, () -> t.board(1, 10));
            Check.due("people() behind a refused one", t.people(), people);
            if (people < 30) {
                t.board(people % 2, 0);
            }
        }
        Check.dueThrow("board(1, 0)", t, Towns.STATE, () -> t.board(1, 0));
        Check.due("people() behind person 31", t.people(), 30);
    }

    private static void promise26WithThoseWhoLeft() {
        BargeWards t = Towns.busy();
        Check.due("people(), one at home, one in the great house", t.people(), 5);
        t.setBowls(1);
        t.pass(40);
        Check.due("nobody is in wards", t.bowlsNeeded(), 0);
        Check.due("people() in the end", t.people(), 5);
        BargeWards home = Towns.landed(Towns.places(), 0);
        Check.due("people(), the only one at home", home.people(), 1);
    }

    private static void promise27From0To60() {
        BargeWards t = new BargeWards();
        Check.due("bowls() at first", t.bowls(), 20);
        int[] some = {0, 1, 59, 60};
        for (int bowls : some) {
            t.setBowls(bowls);
            Check.due("bowls() of " + bowls, t.bowls(), bowls);
            Check.dueThrow("setBowls(-1)", t, Towns.ARGUMENT, () -> t.setBowls(-1));
            Check.dueThrow("setBowls(61)", t, Towns.ARGUMENT, () -> t.setBowls(61));
            Check.due("bowls() behind refused ones", t.bowls(), bowls);
        }
        BargeWards eaten = Towns.crowded(30);
        eaten.pass(1);
        Check.due("bowls() behind a day on which all were eaten", eaten.bowls(), 20);
    }

    private static void promise28NoneToAll() {
        Check.due("without wards", new BargeWards().freePlaces(), 0);
        Check.due("one place", Towns.withWards(1).freePlaces(), 1);
        Check.due("the most places", Towns.withWards(8, 8, 8, 8, 8).freePlaces(), 40);
        Check.due("40 places, 30 people", Towns.crowded(30).freePlaces(), 10);
        for (int people = 0; people <= 4; people++) {
            BargeWards t = Towns.withWards(1, 2);
            t.addBarge(1);
            for (int i = 0; i < people; i++) {
                t.board(0, 1);
            }
            Check.due(people + " on a barge", t.freePlaces(), 3);
            t.pass(1);
            Check.due(people + " landed", t.freePlaces(), Math.max(0, 3 - people));
        }
        BargeWards left = Towns.landed(Towns.places(1, 2), 1, 9, 5);
        Check.due("all taken", left.freePlaces(), 0);
        left.setBowls(1);
        left.pass(1);
        Check.due("one home, one in the great house", left.freePlaces(), 2);
    }

    private static void promise29AroundTheBowls() {
        for (int bowls = 0; bowls <= 5; bowls++) {
            BargeWards t = Towns.landed(Towns.places(2, 2), 5, 5, 5, 5);
            t.setBowls(bowls);
            Check.due("bowlsShort() of 4 people and " + bowls, t.bowlsShort(), Math.max(0, 4 - bowls));
        }
        int[] some = {0, 29, 30, 31, 60};
        for (int bowls : some) {
            BargeWards t = Towns.crowded(30);
            t.setBowls(bowls);
            Check.due("bowlsShort() of 30 people and " + bowls, t.bowlsShort(), Math.max(0, 30 - bowls));
        }
    }

    private static void promise29OnlyThoseInWards() {
        BargeWards t = Towns.busy();
        t.setBowls(0);
        Check.due("two in wards, the others elsewhere", t.bowlsShort(), 2);
        BargeWards none = Towns.aboard(1, 0, 5);
        none.setBowls(0);
        Check.due("two on a barge", none.bowlsShort(), 0);
        none.pass(1);
        Check.due("one at home, one on a barge", none.bowlsShort(), 0);
        BargeWards empty = new BargeWards();
        empty.setBowls(0);
        Check.due("nobody", empty.bowlsShort(), 0);
    }

    private static void promise29AsTheDayGoes() {
        for (int bowls = 0; bowls <= 4; bowls++) {
            BargeWards t = Towns.landed(Towns.places(2, 2), 5, 5, 5);
            t.setBowls(bowls);
            int foretold = t.bowlsShort();
            t.pass(1);
            int hungry = t.hungryDaysOf(0) + t.hungryDaysOf(1) + t.hungryDaysOf(2);
            Check.due("hungry behind a day with " + bowls, hungry, foretold);
        }
    }

    private static void promise30NoneToAll() {
        BargeWards t = Towns.landed(Towns.places(8), 0, 1, 2, 9);
        Check.due("peopleHome() of one", t.peopleHome(), 1);
        t.pass(1);
        Check.due("peopleHome() of two", t.peopleHome(), 2);
        t.setBowls(0);
        t.pass(40);
        Check.due("peopleHome(), the others in the great house", t.peopleHome(), 2);
        BargeWards all = Towns.withBarges(2, 2);
        for (int i = 0; i < 30; i++) {
            all.board(i % 2, 0);
        }
        all.pass(1);
        Check.due("peopleHome() a day ahead", all.peopleHome(), 0);
        all.pass(1);
        Check.due("peopleHome() of all", all.peopleHome(), 30);
        Check.due("peopleHome() of nobody", new BargeWards().peopleHome(), 0);
    }

    private static void promise31NoneToAll() {
        BargeWards t = Towns.crowded(30);
        t.setBowls(0);
        t.pass(4);
        Check.due("peopleInGreatHouse() a day ahead", t.peopleInGreatHouse(), 0);
        t.pass(1);
        Check.due("peopleInGreatHouse() of all", t.peopleInGreatHouse(), 30);
        BargeWards one = Towns.landed(Towns.places(8), 0, 8, 9);
        one.setBowls(0);
        Check.due("peopleInGreatHouse() of none", one.peopleInGreatHouse(), 0);
        one.pass(1);
        Check.due("peopleInGreatHouse() of one", one.peopleInGreatHouse(), 1);
        BargeWards aboard = Towns.aboard(9, 9, 9);
        aboard.pass(3);
        Check.due("fevers of 10 on a barge", aboard.peopleInGreatHouse(), 0);
        Check.due("peopleInGreatHouse() of nobody", new BargeWards().peopleInGreatHouse(), 0);
    }

    private static void promise32EatenInAll() {
        BargeWards t = Towns.landed(Towns.places(2, 2), 5, 5, 5, 0);
        Check.due("on the day of landing", t.bowlsEaten(), 0);
        int[] bowls = {0, 1, 2, 3, 4, 60};
        int[] eaten = {0, 1, 3, 6, 9, 12};
        for (int day = 0; day < bowls.length; day++) {
            t.setBowls(bowls[day]);
            t.pass(1);
            Check.due("bowlsEaten() behind a day with " + bowls[day], t.bowlsEaten(), eaten[day]);
        }
        BargeWards full = Towns.crowded(30);
        full.setBowls(60);
        full.pass(2);
        Check.due("bowlsEaten() of 30 people in 2 days", full.bowlsEaten(), 60);
        full.setBowls(7);
        full.pass(1);
        Check.due("bowlsEaten() with 7 on the third", full.bowlsEaten(), 67);
        BargeWards nobody = new BargeWards();
        nobody.pass(40);
        Check.due("bowlsEaten() by nobody", nobody.bowlsEaten(), 0);
    }

    private static void promise32NotWhatWouldBeEaten() {
        BargeWards t = Towns.busy();
        t.homeAfter(40);
        t.greatHouseAfter(40);
        t.bestStraw(40);
        t.daysUntilHome(0);
        Check.due("bowlsEaten() behind questions", t.bowlsEaten(), 2);
    }
}
