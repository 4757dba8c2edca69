/** The section "Terms" ahead of the steps of a day and behind them, and the limit of 512 calls. */
final class BoundariesOfTerms {
    private BoundariesOfTerms() {
    }

    static void run(Sentences s) {
        s.test("What it is", "An object is used for at most 512 calls", BoundariesOfTerms::theLastOf512Calls);

        s.terms("from 0.", BoundariesOfTerms::timeIsToldFrom0);

        s.terms("Wards. At most 5", BoundariesOfTerms::wardsAreAtMost5);
        s.terms("Wards. At most 5, numbered from 0", BoundariesOfTerms::wardsAreNumberedFrom0);
        s.terms("each has 1 to 8 places", BoundariesOfTerms::aWardHas1To8Places);
        s.terms("straw, which is so many days old (0, at first)", BoundariesOfTerms::strawIs0DaysOldAtFirst);

        s.terms("the kitchen has so many for a day, 0 to 60", BoundariesOfTerms::bowlsAre0To60);
        s.terms("the kitchen has so many for a day", BoundariesOfTerms::bowlsAreForADay);
        s.terms("(20, at first)", BoundariesOfTerms::bowlsAre20AtFirst);

        s.terms("Barges. At most 4", BoundariesOfTerms::bargesAreAtMost4);
        s.terms("Barges. At most 4, numbered likewise", BoundariesOfTerms::bargesAreNumberedFrom0);
        s.terms("each is kept for some days, 1 to 9", BoundariesOfTerms::aBargeIsKeptFor1To9Days);
        s.terms("(at first those for which it is kept)", BoundariesOfTerms::daysToGoAreThoseKeptAtFirst);
        s.terms("it is at the quay, as these are 0", BoundariesOfTerms::aBargeIsAtTheQuayAsDaysToGoAre0);

        s.terms("People. At most 30", BoundariesOfTerms::peopleAreAtMost30);
        s.terms("People. At most 30, numbered likewise", BoundariesOfTerms::peopleAreNumberedFrom0);
        s.terms("each has a fever, 0 to 10", BoundariesOfTerms::aFeverIs0To10);
        s.terms("is on a barge, in a ward, at home, or in the great house", BoundariesOfTerms::aPersonIsInOnePlace);

        s.terms("A method that throws an exception changes nothing.", BoundariesOfTerms::whatThrowsChangesNothing);
        s.terms("the one that is named first is thrown", BoundariesOfTerms::addWardNamesTheArgumentFirst);
        s.terms("the one that is named first is thrown", BoundariesOfTerms::addBargeNamesTheArgumentFirst);
        s.terms("the one that is named first is thrown", BoundariesOfTerms::boardNamesTheIndexThenTheArgument);
        s.terms("the one that is named first is thrown", BoundariesOfTerms::carryNamesTheIndexFirst);
    }

    /** The 511th and the 512th call, behind the dearest ones, and behind refused ones. */
    private static void theLastOf512Calls() {
        BargeWards t = Towns.filled();
        BargeWards twin = Towns.filled();
        int calls = 5 + 4 + 30 + 1;
        while (calls < 510) {
            t.bestStraw(40);
            Check.outcome(() -> t.board(0, 0));
            calls += 2;
        }
        Check.due("call 511: homeAfter(40)", t.homeAfter(40), twin.homeAfter(40));
        Check.due("call 512: digest()", t.digest(), twin.digest());
        BargeWards u = new BargeWards();
        for (int call = 1; call <= 511; call++) {
            u.pass(40);
        }
        Check.due("call 512: day()", u.day(), 511 * 40);
    }

    private static void timeIsToldFrom0() {
        BargeWards t = new BargeWards();
        Check.due("day() of a new town", t.day(), 0);
        t.pass(1);
        Check.due("day() behind a day", t.day(), 1);
        t.pass(1);
        Check.due("day() behind two", t.day(), 2);
    }

    private static void wardsAreAtMost5() {
        BargeWards t = new BargeWards();
        for (int wards = 0; wards <= 4; wards++) {
            Check.due("one more ward behind " + wards, t.addWard(1), wards);
            Check.due("wards()", t.wards(), wards + 1);
        }
        Towns.refused("a sixth ward", () -> Towns.withWards(1, 1, 1, 1, 1), Towns.STATE, u -> u.addWard(1));
        Check.due("wards() then", Towns.withWards(1, 1, 1, 1, 1).wards(), 5);
    }

    private static void wardsAreNumberedFrom0() {
        BargeWards t = new BargeWards();
        for (int i = 0; i < 5; i++) {
            Check.due("addWard", t.addWard(8 - i), i);
        }
        for (int i = 0; i < 5; i++) {
            Check.due("placesOf(" + i + ")", t.placesOf(i), 8 - i);
        }
    }

    private static void aWardHas1To8Places() {
        for (int places = 1; places <= 8; places++) {
            BargeWards t = Towns.landed(Towns.places(places), 1, 1, 1, 1, 1, 1, 1, 1, 1);
            Check.due("peopleIn a ward of " + places, t.peopleIn(0), places);
            Check.due("peopleOn the barge then", t.peopleOn(0), 9 - places);
        }
        Towns.refusedArguments("addWard", BargeWards::new, BargeWards::addWard, 0, 9);
    }

    private static void strawIs0DaysOldAtFirst() {
        BargeWards t = new BargeWards();
        t.addWard(1);
        Check.due("strawOf(0) on the day 0", t.strawOf(0), 0);
        t.pass(1);
        t.addWard(1);
        Check.due("strawOf(0) a day later", t.strawOf(0), 1);
        Check.due("strawOf(1) on the day 1", t.strawOf(1), 0);
        t.pass(40);
        t.addWard(1);
        Check.due("strawOf(2) on the day 41", t.strawOf(2), 0);
    }

    private static void bowlsAre0To60() {
        int[] right = {0, 1, 59, 60};
        for (int bowls : right) {
            BargeWards t = Towns.crowded(30);
            t.setBowls(bowls);
            Check.due("bowls() of " + bowls, t.bowls(), bowls);
            t.pass(1);
            Check.due("bowlsEaten() of " + bowls, t.bowlsEaten(), Math.min(30, bowls));
        }
        Towns.refusedArguments("setBowls", BargeWards::new, BargeWards::setBowls, -1, 61);
    }

    /** What is left over is gone the next day, and what was eaten is there again. */
    private static void bowlsAreForADay() {
        BargeWards t = Towns.landed(Towns.places(8), 7, 7, 7);
        t.setBowls(4);
        Towns.boardAll(t, 0, 7, 7, 7);
        t.pass(1);
        Check.due("bowlsEaten() of 4 by three people", t.bowlsEaten(), 3);
        Check.due("bowlsShort() of six people the next day", t.bowlsShort(), 2);
        t.pass(1);
        Check.due("bowlsEaten() by six people the next day", t.bowlsEaten(), 3 + 4);
        Check.due("bowls()", t.bowls(), 4);
    }

    private static void bowlsAre20AtFirst() {
        Check.due("bowls() of a new town", new BargeWards().bowls(), 20);
        Check.due("bowlsShort() of 19", Towns.crowded(19).bowlsShort(), 0);
        Check.due("bowlsShort() of 20", Towns.crowded(20).bowlsShort(), 0);
        Check.due("bowlsShort() of 21", Towns.crowded(21).bowlsShort(), 1);
        BargeWards t = Towns.crowded(21);
        t.pass(1);
        Check.due("hungryDaysOf the 20th", t.hungryDaysOf(19), 0);
        Check.due("hungryDaysOf the 21st", t.hungryDaysOf(20), 1);
    }

    private static void bargesAreAtMost4() {
        BargeWards t = new BargeWards();
        for (int barges = 0; barges <= 3; barges++) {
            Check.due("one more barge behind " + barges, t.addBarge(1), barges);
            Check.due("barges()", t.barges(), barges + 1);
        }
        Towns.refused("a fifth barge", () -> Towns.withBarges(1, 1, 1, 1), Towns.STATE, u -> u.addBarge(1));
        Check.due("barges() then", Towns.withBarges(1, 1, 1, 1).barges(), 4);
    }

    private static void bargesAreNumberedFrom0() {
        BargeWards t = new BargeWards();
        for (int i = 0; i < 4; i++) {
            Check.due("addBarge", t.addBarge(9 - i), i);
        }
        for (int i = 0; i < 4; i++) {
            Check.due("keptFor(" + i + ")", t.keptFor(i), 9 - i);
        }
    }

    private static void aBargeIsKeptFor1To9Days() {
        for (int kept = 1; kept <= 9; kept++) {
            BargeWards t = Towns.aboard(kept, 0);
            for (int day = 1; day <= kept; day++) {
                Check.due("still aboard, kept for " + kept, t.bargeOf(0), 0);
                t.pass(1);
            }
            Check.due("ashore, kept for " + kept, t.bargeOf(0), -1);
        }
        Towns.refusedArguments("addBarge", BargeWards::new, BargeWards::addBarge, 0, 10);
    }

    private static void daysToGoAreThoseKeptAtFirst() {
        for (int kept = 1; kept <= 9; kept++) {
            BargeWards t = new BargeWards();
            t.pass(kept);
            t.addBarge(kept);
            Check.due("daysToGo of a new barge", t.daysToGo(0), kept);
            t.pass(1);
            Check.due("daysToGo a day later", t.daysToGo(0), kept - 1);
        }
    }

    private static void aBargeIsAtTheQuayAsDaysToGoAre0() {
        BargeWards t = Towns.aboard(3, 0, 4);
        t.addWard(1);
        t.pass(1);
        Check.due("2 days to go: nobody is ashore", t.peopleOn(0), 2);
        t.pass(1);
        Check.due("1 day to go: nobody is ashore", t.peopleOn(0), 2);
        Check.due("daysToGo", t.daysToGo(0), 1);
        t.pass(1);
        Check.due("0 days to go: somebody is ashore", t.wardOf(0), 0);
    }

    private static void peopleAreAtMost30() {
        for (int people = 28; people <= 29; people++) {
            BargeWards t = Towns.withPeople(people);
            Check.due("one more behind " + people, t.board(1, 0), people);
            Check.due("people()", t.people(), people + 1);
        }
        Towns.refused("person 31", () -> Towns.withPeople(30), Towns.STATE, t -> t.board(1, 0));
        BargeWards gone = Towns.withPeople(30);
        gone.pass(40);
        Check.due("all are at home or in the great house", gone.peopleHome() + gone.peopleInGreatHouse(), 30);
        Check.dueThrow("person 31, though nobody is on a barge or in a ward", gone, Towns.STATE, () -> gone.board(1, 0));
    }

    private static void peopleAreNumberedFrom0() {
        BargeWards t = Towns.withBarges(5, 6);
        for (int i = 0; i < 30; i++) {
            Check.due("board", t.board(i % 2, i % 10), i);
        }
        for (int i = 0; i < 30; i++) {
            Check.due("feverOf(" + i + ")", t.feverOf(i), i % 10);
        }
    }

    private static void aFeverIs0To10() {
        BargeWards t = Towns.highFevers();
        t.setBowls(0);
        t.pass(40);
        for (int i = 0; i < 3; i++) {
            Check.due("feverOf(" + i + ") hungry for 40 days", t.feverOf(i), 10);
        }
        BargeWards u = Towns.landed(Towns.places(8), 0, 1, 2);
        for (int day = 0; day < 5; day++) {
            u.layStraw(0);
            u.pass(8);
        }
        for (int i = 0; i < 3; i++) {
            Check.due("feverOf(" + i + ") fed for 40 days", u.feverOf(i), 0);
        }
    }

    private static void aPersonIsInOnePlace() {
        BargeWards t = Towns.withBarges(2, 4);
        t.addWard(2);
        Towns.boardAll(t, 0, 0, 3, 9, 5);
        Towns.boardAll(t, 1, 0, 1, 2);
        t.setBowls(1);
        for (int look = 0; look < 14; look++) {
            for (int p = 0; p < 7; p++) {
                int places = (t.wardOf(p) >= 0 ? 1 : 0) + (t.bargeOf(p) >= 0 ? 1 : 0)
                    + (t.isHome(p) ? 1 : 0) + (t.isInGreatHouse(p) ? 1 : 0);
                Check.due("places of " + p + " at look " + look, places, 1);
            }
            t.pass(1);
        }
    }

    /** A refused call of each kind on a town in which every number is other than at first. */
    private static void whatThrowsChangesNothing() {
        Towns.Maker busy = Towns::busy;
        Towns.refused("addWard(9)", busy, Towns.ARGUMENT, t -> t.addWard(9));
        Towns.refused("addBarge(10)", busy, Towns.ARGUMENT, t -> t.addBarge(10));
        Towns.refused("board(2, 1)", busy, Towns.INDEX, t -> t.board(2, 1));
        Towns.refused("board(0, 10) at the quay", busy, Towns.ARGUMENT, t -> t.board(0, 10));
        Towns.refused("setBowls(61)", busy, Towns.ARGUMENT, t -> t.setBowls(61));
        Towns.refused("layStraw(2)", busy, Towns.INDEX, t -> t.layStraw(2));
        Towns.refused("carry(0, 2)", busy, Towns.INDEX, t -> t.carry(0, 2));
        Towns.refused("carry(1, 0)", busy, Towns.STATE, t -> t.carry(1, 0));
        Towns.refused("pass(41)", busy, Towns.ARGUMENT, t -> t.pass(41));
        Towns.refused("daysUntilHome(5)", busy, Towns.INDEX, t -> t.daysUntilHome(5));
        Towns.refused("homeAfter(41)", busy, Towns.ARGUMENT, t -> t.homeAfter(41));
        Towns.refused("greatHouseAfter(41)", busy, Towns.ARGUMENT, t -> t.greatHouseAfter(41));
        Towns.refused("bestStraw(41)", busy, Towns.ARGUMENT, t -> t.bestStraw(41));
        Towns.Maker filled = Towns::filled;
        Towns.refused("addWard(8)", filled, Towns.STATE, t -> t.addWard(8));
        Towns.refused("addBarge(9)", filled, Towns.STATE, t -> t.addBarge(9));
        Towns.refused("board(3, 9)", filled, Towns.STATE, t -> t.board(3, 9));
    }

    private static void addWardNamesTheArgumentFirst() {
        Towns.refused("addWard(0) with 5", Towns::filled, Towns.ARGUMENT, t -> t.addWard(0));
        Towns.refused("addWard(9) with 5", Towns::filled, Towns.ARGUMENT, t -> t.addWard(9));
        Towns.refused("addWard(1) with 5", Towns::filled, Towns.STATE, t -> t.addWard(1));
        Towns.refused("addWard(8) with 5", Towns::filled, Towns.STATE, t -> t.addWard(8));
    }

    private static void addBargeNamesTheArgumentFirst() {
        Towns.refused("addBarge(0) with 4", Towns::filled, Towns.ARGUMENT, t -> t.addBarge(0));
        Towns.refused("addBarge(10) with 4", Towns::filled, Towns.ARGUMENT, t -> t.addBarge(10));
        Towns.refused("addBarge(1) with 4", Towns::filled, Towns.STATE, t -> t.addBarge(1));
        Towns.refused("addBarge(9) with 4", Towns::filled, Towns.STATE, t -> t.addBarge(9));
    }

    private static void boardNamesTheIndexThenTheArgument() {
        Towns.refused("board(0, 10) without barges", BargeWards::new, Towns.INDEX, t -> t.board(0, 10));
        Towns.refused("board(2, -1)", Towns::busy, Towns.INDEX, t -> t.board(2, -1));
        Towns.refused("board(4, 0) with 30", Towns::filled, Towns.INDEX, t -> t.board(4, 0));
        Towns.refused("board(-1, 10) with 30", Towns::filled, Towns.INDEX, t -> t.board(-1, 10));
        Towns.refused("board(0, 10) with 30", Towns::filled, Towns.ARGUMENT, t -> t.board(0, 10));
        Towns.refused("board(0, -1) with 30", Towns::filled, Towns.ARGUMENT, t -> t.board(0, -1));
        Towns.refused("board(0, 9) with 30", Towns::filled, Towns.STATE, t -> t.board(0, 9));
    }

    private static void carryNamesTheIndexFirst() {
        Towns.refused("no such ward, who is home", Towns::busy, Towns.INDEX, t -> t.carry(2, 2));
        Towns.refused("no such ward, in the great house", Towns::busy, Towns.INDEX, t -> t.carry(3, -1));
        Towns.refused("no such ward, on a barge", Towns::busy, Towns.INDEX, t -> t.carry(4, 5));
        Towns.refused("no such person, full ward", Towns::busy, Towns.INDEX, t -> t.carry(5, 0));
        Towns.refused("no such person, nor ward", Towns::busy, Towns.INDEX, t -> t.carry(-1, 2));
        Towns.refused("on a barge, no wards", () -> Towns.aboard(3, 1), Towns.INDEX, t -> t.carry(0, 0));
        Towns.refused("on a barge, full ward", Towns::busy, Towns.STATE, t -> t.carry(4, 0));
    }
}
