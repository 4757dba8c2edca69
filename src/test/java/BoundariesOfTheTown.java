/** Promises 1 to 8: a new object, and the calls that change the town. */
final class BoundariesOfTheTown {
    private BoundariesOfTheTown() {
    }

    static void run(Sentences s) {
        s.promise(1, "Creates a town without wards, barges and people, on the day 0.",
            BoundariesOfTheTown::promise1EmptyOnTheDay0);

        s.promise(2, "how many places a new ward has", BoundariesOfTheTown::promise2PlacesOfTheNewWard);
        s.promise(2, "Returns its number.", BoundariesOfTheTown::promise2ReturnsItsNumber);
        s.promise(2, "Throws `IllegalArgumentException` if places is not 1 to 8",
            BoundariesOfTheTown::promise2PlacesIsNot1To8);
        s.promise(2, "Throws `IllegalStateException` if there are 5", BoundariesOfTheTown::promise2ThereAre5);

        s.promise(3, "how many days a new barge is kept", BoundariesOfTheTown::promise3DaysOfTheNewBarge);
        s.promise(3, "Returns its number.", BoundariesOfTheTown::promise3ReturnsItsNumber);
        s.promise(3, "Throws `IllegalArgumentException` if days is not 1 to 9",
            BoundariesOfTheTown::promise3DaysIsNot1To9);
        s.promise(3, "Throws `IllegalStateException` if there are 4", BoundariesOfTheTown::promise3ThereAre4);

        s.promise(4, "Takes a person aboard a barge", BoundariesOfTheTown::promise4TakesAboardThisBarge);
        s.promise(4, "one that is at the quay is kept again, for as many days as at first",
            BoundariesOfTheTown::promise4AtTheQuayItIsKeptAgain);
        s.promise(4, "one that is at the quay", BoundariesOfTheTown::promise4OffTheQuayItIsNot);
        s.promise(4, "Returns the number of the person.", BoundariesOfTheTown::promise4ReturnsTheNumber);
        s.promise(4, "Throws `IndexOutOfBoundsException` if there is no such barge",
            BoundariesOfTheTown::promise4NoSuchBarge);
        s.promise(4, "Throws `IllegalArgumentException` if fever is not 0 to 9",
            BoundariesOfTheTown::promise4FeverIsNot0To9);
        s.promise(4, "Throws `IllegalStateException` if there are 30 people",
            BoundariesOfTheTown::promise4ThereAre30People);

        s.promise(5, "from now on", BoundariesOfTheTown::promise5FromNowOn);
        s.promise(5, "Returns how many before.", BoundariesOfTheTown::promise5ReturnsHowManyBefore);
        s.promise(5, "Throws `IllegalArgumentException` if bowls is not 0 to 60",
            BoundariesOfTheTown::promise5BowlsIsNot0To60);

        s.promise(6, "Lays fresh straw in a ward.", BoundariesOfTheTown::promise6FreshStrawInThisWard);
        s.promise(6, "Returns how many days old the straw was.", BoundariesOfTheTown::promise6ReturnsHowOld);
        s.promise(6, "Throws `IndexOutOfBoundsException` if there is no such ward",
            BoundariesOfTheTown::promise6NoSuchWard);

        s.promise(7, "Carries a person from a ward to another one.", BoundariesOfTheTown::promise7Carries);
        s.promise(7, "Returns the ward where this one was.", BoundariesOfTheTown::promise7ReturnsTheWard);
        s.promise(7, "Throws `IndexOutOfBoundsException` if there is no such person",
            BoundariesOfTheTown::promise7NoSuchPerson);
        s.promise(7, "if there is no such person or ward", BoundariesOfTheTown::promise7NoSuchWard);
        s.promise(7, "Throws `IllegalStateException` if this person is in no ward",
            BoundariesOfTheTown::promise7IsInNoWard);
        s.promise(7, "is in this one", BoundariesOfTheTown::promise7IsInThisOne);
        s.promise(7, "or it has no free place", BoundariesOfTheTown::promise7HasNoFreePlace);

        s.promise(8, "Lets days go by.", BoundariesOfTheTown::promise8DaysGoBy);
        s.promise(8, "Returns how many people go home in them.", BoundariesOfTheTown::promise8ReturnsHowManyGoHome);
        s.promise(8, "Throws `IllegalArgumentException` if days is not 1 to 40",
            BoundariesOfTheTown::promise8DaysIsNot1To40);
    }

    private static void promise1EmptyOnTheDay0() {
        BargeWards t = new BargeWards();
        Check.due("wards()", t.wards(), 0);
        Check.due("barges()", t.barges(), 0);
        Check.due("people()", t.people(), 0);
        Check.due("day()", t.day(), 0);
        Check.due("bowls()", t.bowls(), 20);
        Check.due("freePlaces()", t.freePlaces(), 0);
        Check.due("peopleHome()", t.peopleHome(), 0);
        Check.due("peopleInGreatHouse()", t.peopleInGreatHouse(), 0);
        Towns.refused("feverOf(0)", BargeWards::new, Towns.INDEX, u -> u.feverOf(0));
        Towns.refused("placesOf(0)", BargeWards::new, Towns.INDEX, u -> u.placesOf(0));
        Towns.refused("daysToGo(0)", BargeWards::new, Towns.INDEX, u -> u.daysToGo(0));
        BargeWards changed = Towns.busy();
        Check.due("behind changes of another object: digest()", new BargeWards().digest(), t.digest());
        Check.due("the other object is on the day 2", changed.day(), 2);
    }

    // ---- promise 2

    private static void promise2PlacesOfTheNewWard() {
        for (int places = 1; places <= 8; places++) {
            BargeWards t = Towns.withWards(4);
            t.addWard(places);
            Check.due("placesOf(1)", t.placesOf(1), places);
            Check.due("placesOf(0) stays", t.placesOf(0), 4);
            Check.due("freePlaces()", t.freePlaces(), 4 + places);
            Check.due("peopleIn(1)", t.peopleIn(1), 0);
        }
    }

    private static void promise2ReturnsItsNumber() {
        BargeWards t = Towns.withBarges(3, 3);
        Towns.boardAll(t, 1, 1, 2, 3);
        for (int i = 0; i < 5; i++) {
            Check.due("addWard", t.addWard(i + 1), i);
        }
    }

    private static void promise2PlacesIsNot1To8() {
        Towns.refusedArguments("addWard", Towns::busy, BargeWards::addWard,
            0, -1, -8, 9, 10, 257, 265, Towns.MIN, Towns.MAX);
        int[] right = {1, 2, 7, 8};
        for (int places : right) {
            Check.due("addWard(" + places + ")", Towns.busy().addWard(places), 2);
        }
    }

    private static void promise2ThereAre5() {
        for (int wards = 3; wards <= 4; wards++) {
            BargeWards t = Towns.withWards(wards == 3 ? Towns.places(1, 2, 3) : Towns.places(1, 2, 3, 4));
            Check.due("addWard(8) with " + wards, t.addWard(8), wards);
        }
        Towns.Maker five = () -> Towns.withWards(1, 2, 3, 4, 5);
        int[] right = {1, 4, 8};
        for (int places : right) {
            Towns.refused("addWard(" + places + ") with 5", five, Towns.STATE, t -> t.addWard(places));
        }
    }

    // ---- promise 3

    private static void promise3DaysOfTheNewBarge() {
        for (int days = 1; days <= 9; days++) {
            BargeWards t = Towns.withBarges(4);
            t.addBarge(days);
            Check.due("keptFor(1)", t.keptFor(1), days);
            Check.due("daysToGo(1)", t.daysToGo(1), days);
            Check.due("peopleOn(1)", t.peopleOn(1), 0);
            Check.due("keptFor(0) stays", t.keptFor(0), 4);
        }
    }

    private static void promise3ReturnsItsNumber() {
        BargeWards t = Towns.withWards(1, 1, 1);
        for (int i = 0; i < 4; i++) {
            Check.due("addBarge", t.addBarge(9 - i), i);
        }
    }

    private static void promise3DaysIsNot1To9() {
        Towns.refusedArguments("addBarge", Towns::busy, BargeWards::addBarge,
            0, -1, -9, 10, 11, 257, 266, Towns.MIN, Towns.MAX);
        int[] right = {1, 2, 8, 9};
        for (int days : right) {
            Check.due("addBarge(" + days + ")", Towns.busy().addBarge(days), 2);
        }
    }

    private static void promise3ThereAre4() {
        Check.due("addBarge(9) with 2", Towns.withBarges(1, 2).addBarge(9), 2);
        Check.due("addBarge(9) with 3", Towns.withBarges(1, 2, 3).addBarge(9), 3);
        int[] right = {1, 5, 9};
        for (int days : right) {
            Towns.refused("addBarge(" + days + ") with 4", () -> Towns.withBarges(1, 2, 3, 4), Towns.STATE,
                t -> t.addBarge(days));
        }
    }

    // ---- promise 4

    private static void promise4TakesAboardThisBarge() {
        for (int chosen = 0; chosen < 4; chosen++) {
            BargeWards t = Towns.withBarges(5, 5, 5, 5);
            t.board(chosen, 7);
            for (int barge = 0; barge < 4; barge++) {
                Check.due("peopleOn(" + barge + "), one on " + chosen, t.peopleOn(barge), barge == chosen ? 1 : 0);
            }
            Check.due("bargeOf", t.bargeOf(0), chosen);
            Check.due("wardOf", t.wardOf(0), -1);
        }
    }

    private static void promise4AtTheQuayItIsKeptAgain() {
        for (int kept = 1; kept <= 9; kept++) {
            BargeWards t = Towns.withBarges(kept, 9);
            t.pass(kept);
            Check.due("at the quay: daysToGo", t.daysToGo(0), 0);
            t.board(0, 0);
            Check.due("kept again: daysToGo", t.daysToGo(0), kept);
            Check.due("keptFor stays", t.keptFor(0), kept);
            Check.due("daysToGo of the other barge stay", t.daysToGo(1), 9 - kept);
            t.pass(kept);
            Check.due("and lands behind as many days", t.isHome(0), true);
        }
    }

    private static void promise4OffTheQuayItIsNot() {
        BargeWards t = Towns.withBarges(5);
        for (int day = 0; day < 5; day++) {
            t.board(0, 0);
            Check.due("daysToGo stay on the day " + day, t.daysToGo(0), 5 - day);
            t.pass(1);
        }
        Check.due("daysToGo behind 5 days", t.daysToGo(0), 0);
        Check.due("all went home then", t.peopleHome(), 5);
        t.board(0, 0);
        t.board(0, 0);
        Check.due("daysToGo, two boarded at the quay", t.daysToGo(0), 5);
    }

    private static void promise4ReturnsTheNumber() {
        BargeWards t = Towns.busy();
        Check.due("board on barge 1", t.board(1, 0), 5);
        Check.due("board on barge 0", t.board(0, 9), 6);
        Check.due("bargeOf(5)", t.bargeOf(5), 1);
        Check.due("bargeOf(6)", t.bargeOf(6), 0);
        Check.due("feverOf(6)", t.feverOf(6), 9);
        Check.due("hungryDaysOf(6)", t.hungryDaysOf(6), 0);
        BargeWards last = Towns.withPeople(29);
        Check.due("the last one", last.board(1, 4), 29);
        Check.due("feverOf(29)", last.feverOf(29), 4);
    }

    private static void promise4NoSuchBarge() {
        Towns.noSuchBarge("board on", (t, barge) -> t.board(barge, 5));
    }

    private static void promise4FeverIsNot0To9() {
        Towns.refusedArguments("board(0, ", Towns::busy, (t, fever) -> t.board(0, fever),
            -1, -2, 10, 11, 256, 265, Towns.MIN, Towns.MAX);
        Towns.refusedArguments("board(1, ", Towns::busy, (t, fever) -> t.board(1, fever), -1, 10);
        for (int fever = 0; fever <= 9; fever++) {
            BargeWards t = Towns.busy();
            Check.due("board(0, " + fever + ")", t.board(0, fever), 5);
            Check.due("feverOf", t.feverOf(5), fever);
        }
    }

    private static void promise4ThereAre30People() {
        Check.due("board with 28", Towns.withPeople(28).board(1, 0), 28);
        Check.due("board with 29", Towns.withPeople(29).board(1, 0), 29);
        Towns.Maker thirty = () -> {
            BargeWards t = Towns.withBarges(1, 9);
            for (int i = 0; i < 30; i++) {
                t.board(i % 2, i % 2);
            }
            t.pass(1);
            return t;
        };
        Check.due("barge 0 is at the quay", thirty.make().daysToGo(0), 0);
        Towns.refused("board(0, 0) with 30, at the quay", thirty, Towns.STATE, t -> t.board(0, 0));
        Towns.refused("board(1, 9) with 30, off the quay", thirty, Towns.STATE, t -> t.board(1, 9));
    }

    // ---- promise 5

    private static void promise5FromNowOn() {
        BargeWards t = Towns.landed(Towns.places(8), 9, 9, 9);
        t.setBowls(1);
        Check.due("bowls() at once", t.bowls(), 1);
        Check.due("bowlsEaten() not yet", t.bowlsEaten(), 0);
        t.pass(1);
        Check.due("bowlsEaten() behind a day", t.bowlsEaten(), 1);
        Check.due("bowls() behind a day", t.bowls(), 1);
        t.setBowls(0);
        t.pass(1);
        Check.due("bowlsEaten() with 0", t.bowlsEaten(), 1);
        Check.due("bowls() for good", t.bowls(), 0);
    }

    private static void promise5ReturnsHowManyBefore() {
        BargeWards t = new BargeWards();
        Check.due("setBowls(0)", t.setBowls(0), 20);
        Check.due("setBowls(60)", t.setBowls(60), 0);
        Check.due("setBowls(60) again", t.setBowls(60), 60);
        Check.due("setBowls(1)", t.setBowls(1), 60);
        Check.dueThrow("setBowls(61)", t, Towns.ARGUMENT, () -> t.setBowls(61));
        Check.due("setBowls(2) behind a refused one", t.setBowls(2), 1);
    }

    private static void promise5BowlsIsNot0To60() {
        Towns.refusedArguments("setBowls", Towns::busy, BargeWards::setBowls,
            -1, -2, -60, 61, 62, 256, 316, Towns.MIN, Towns.MAX);
        int[] right = {0, 1, 59, 60};
        for (int bowls : right) {
            BargeWards t = Towns.busy();
            Check.due("setBowls(" + bowls + ")", t.setBowls(bowls), 2);
            Check.due("bowls()", t.bowls(), bowls);
        }
    }

    // ---- promise 6

    private static void promise6FreshStrawInThisWard() {
        for (int laid = 0; laid < 5; laid++) {
            BargeWards t = Towns.withWards(1, 1, 1, 1, 1);
            t.pass(7);
            t.layStraw(laid);
            for (int w = 0; w < 5; w++) {
                Check.due("strawOf(" + w + "), laid in " + laid, t.strawOf(w), w == laid ? 0 : 7);
            }
        }
    }

    private static void promise6ReturnsHowOld() {
        BargeWards t = Towns.withWards(3);
        Check.due("layStraw(0) on new straw", t.layStraw(0), 0);
        t.pass(1);
        Check.due("layStraw(0) a day later", t.layStraw(0), 1);
        Check.due("layStraw(0) at once again", t.layStraw(0), 0);
        t.pass(40);
        t.pass(40);
        Check.due("layStraw(0) 80 days later", t.layStraw(0), 80);
    }

    private static void promise6NoSuchWard() {
        Towns.noSuchWard("layStraw", BargeWards::layStraw);
    }

    // ---- promise 7

    private static void promise7Carries() {
        BargeWards t = Towns.busy();
        t.setBowls(1);
        t.pass(1);
        t.carry(0, 1);
        Check.due("wardOf(0)", t.wardOf(0), 1);
        Check.due("wardOf(1) stays", t.wardOf(1), 1);
        Check.due("peopleIn(0)", t.peopleIn(0), 0);
        Check.due("peopleIn(1)", t.peopleIn(1), 2);
        Check.due("feverOf(0) stays", t.feverOf(0), 3);
        Check.due("hungryDaysOf(0) stays", t.hungryDaysOf(0), 0);
        Check.due("strawOf(0) stays", t.strawOf(0), 3);
        Check.due("strawOf(1) stays", t.strawOf(1), 1);
        t.carry(1, 0);
        Check.due("wardOf(1), into the place that got free", t.wardOf(1), 0);
        Check.due("feverOf(1) stays", t.feverOf(1), 6);
        Check.due("hungryDaysOf(1) stays", t.hungryDaysOf(1), 1);
        Check.due("freePlaces() stay", t.freePlaces(), 1);
        Check.due("day() stays", t.day(), 3);
        Check.due("bowlsEaten() stays", t.bowlsEaten(), 3);
    }

    private static void promise7ReturnsTheWard() {
        BargeWards t = Towns.landed(Towns.places(1, 1, 1, 1, 1), 5);
        int[] way = {4, 0, 3, 1, 2, 0};
        int from = 0;
        for (int ward : way) {
            Check.due("carry(0, " + ward + ")", t.carry(0, ward), from);
            from = ward;
        }
    }

    private static void promise7NoSuchPerson() {
        int[] outside = {-1, 5, 6, 30, Towns.MIN, Towns.MAX};
        for (int p : outside) {
            Towns.refused("carry(" + p + ", 1)", Towns::busy, Towns.INDEX, t -> t.carry(p, 1));
        }
        Towns.refused("carry(0, 0) without people", () -> Towns.withWards(1), Towns.INDEX, t -> t.carry(0, 0));
        Towns.refused("carry(30, 1) of 30", () -> Towns.crowded(30), Towns.INDEX, t -> t.carry(30, 1));
        Check.due("carry(0, 4) of 30", Towns.crowded(30).carry(0, 4), 0);
        Check.due("carry(29, 4) of 30", Towns.crowded(30).carry(29, 4), 3);
    }

    private static void promise7NoSuchWard() {
        int[] outside = {-1, 2, 3, 5, Towns.MIN, Towns.MAX};
        for (int w : outside) {
            Towns.refused("carry(1, " + w + ")", Towns::busy, Towns.INDEX, t -> t.carry(1, w));
        }
        Towns.refused("carry(0, 0) without wards", () -> Towns.aboard(3, 1), Towns.INDEX, t -> t.carry(0, 0));
        Towns.refused("carry(0, 5) of 5", () -> Towns.crowded(30), Towns.INDEX, t -> t.carry(0, 5));
        Check.due("carry(0, 4) of 5", Towns.crowded(30).carry(0, 4), 0);
    }

    private static void promise7IsInNoWard() {
        Check.due("who is in a ward", Towns.busy().carry(0, 1), 0);
        Towns.refused("who is at home", Towns::busy, Towns.STATE, t -> t.carry(2, 1));
        Towns.refused("who is in the great house", Towns::busy, Towns.STATE, t -> t.carry(3, 1));
        Towns.refused("who is on barge 1", Towns::busy, Towns.STATE, t -> t.carry(4, 1));
        Towns.refused("who is on barge 1, to ward 0", Towns::busy, Towns.STATE, t -> t.carry(4, 0));
        Towns.Maker onBarge0 = () -> {
            BargeWards t = Towns.aboard(3, 5);
            t.addWard(1);
            t.addWard(1);
            return t;
        };
        Towns.refused("who is on barge 0", onBarge0, Towns.STATE, t -> t.carry(0, 1));
    }

    private static void promise7IsInThisOne() {
        Towns.refused("carry(1, 1), a place is free", Towns::busy, Towns.STATE, t -> t.carry(1, 1));
        Towns.refused("carry(0, 0), none is free", Towns::busy, Towns.STATE, t -> t.carry(0, 0));
        BargeWards t = Towns.busy();
        Check.due("carry(0, 1), the ward behind it", t.carry(0, 1), 0);
        Check.due("carry(0, 0), the ward ahead of it", t.carry(0, 0), 1);
    }

    /** Ward 1 has room for three: two are free, one, none. */
    private static void promise7HasNoFreePlace() {
        Towns.Maker full = () -> {
            BargeWards t = Towns.landed(Towns.places(8, 3), 5, 5, 5, 5, 5);
            Check.due("into a ward with three places", t.carry(4, 1), 0);
            Check.due("into a ward with two free", t.carry(3, 1), 0);
            Check.due("into a ward with one free", t.carry(2, 1), 0);
            return t;
        };
        Towns.refused("into a ward with none free", full, Towns.STATE, t -> t.carry(1, 1));
        BargeWards again = full.make();
        again.carry(3, 0);
        Check.due("into a ward with one free again", again.carry(1, 1), 0);
        BargeWards eight = Towns.crowded(17);
        Check.due("into ward 1 of 8, which has one free", freed(eight).carry(0, 1), 0);
        Towns.refused("into ward 1 of 8, which is full", () -> Towns.crowded(17), Towns.STATE, t -> t.carry(0, 1));
    }

    /** Person 8 lies in ward 1, which is full, and is carried out of it. */
    private static BargeWards freed(BargeWards crowded) {
        crowded.carry(8, 4);
        return crowded;
    }

    // ---- promise 8

    private static void promise8DaysGoBy() {
        int[] some = {1, 2, 39, 40};
        for (int days : some) {
            BargeWards once = Towns.busy();
            BargeWards eachDay = Towns.busy();
            int home = 0;
            for (int i = 0; i < days; i++) {
                home += eachDay.pass(1);
            }
            Check.due("pass(" + days + ") as single days", once.pass(days), home);
            Check.due("day()", once.day(), 2 + days);
            Check.due("digest()", once.digest(), eachDay.digest());
        }
    }

    private static void promise8ReturnsHowManyGoHome() {
        BargeWards t = Towns.withWards(8);
        t.addBarge(1);
        Towns.boardAll(t, 0, 0, 0, 1, 2, 9);
        Check.due("two from the barge", t.pass(1), 2);
        Check.due("one from the ward", t.pass(1), 1);
        t.setBowls(1);
        Check.due("one from the ward, not the one who is hungry", t.pass(1), 1);
        t.setBowls(0);
        Check.due("none, one in the great house", t.pass(5), 0);
        Check.due("isInGreatHouse(4)", t.isInGreatHouse(4), true);
        Check.due("none", t.pass(40), 0);
        BargeWards both = Towns.landed(Towns.places(1), 1);
        both.board(0, 0);
        Check.due("one from the ward and one from the barge", both.pass(1), 2);
        BargeWards all = Towns.withBarges(1, 1, 1, 1);
        for (int i = 0; i < 30; i++) {
            all.board(i % 4, 0);
        }
        Check.due("all 30", all.pass(1), 30);
        BargeWards some = Towns.withBarges(3, 9);
        some.board(0, 0);
        some.board(1, 0);
        Check.due("nobody within 2 days", some.pass(2), 0);
        Check.due("both within 40", some.pass(40), 2);
    }

    private static void promise8DaysIsNot1To40() {
        Towns.refusedArguments("pass", Towns::busy, BargeWards::pass,
            0, -1, -40, 41, 42, 257, 296, Towns.MIN, Towns.MAX);
        int[] right = {1, 2, 39, 40};
        for (int days : right) {
            BargeWards t = Towns.busy();
            t.pass(days);
            Check.due("day() behind pass(" + days + ")", t.day(), 2 + days);
        }
    }
}
