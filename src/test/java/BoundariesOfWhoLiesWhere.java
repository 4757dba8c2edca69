/** Promises 9 to 22: what can be asked of a person, of a ward and of a barge. */
final class BoundariesOfWhoLiesWhere {
    private static final String NO_PERSON = "Throws `IndexOutOfBoundsException` if there is no such person";
    private static final String NO_WARD = "Throws `IndexOutOfBoundsException` if there is no such ward";
    private static final String NO_BARGE = "Throws `IndexOutOfBoundsException` if there is no such barge";

    private BoundariesOfWhoLiesWhere() {
    }

    static void run(Sentences s) {
        s.promise(9, "Returns the fever.", BoundariesOfWhoLiesWhere::promise9From0To10);
        s.promise(9, NO_PERSON, BoundariesOfWhoLiesWhere::promise9NoSuchPerson);
        s.promise(10, "Returns the ward in which this one is; -1 for none.",
            BoundariesOfWhoLiesWhere::promise10MinusOneForNone);
        s.promise(10, NO_PERSON, BoundariesOfWhoLiesWhere::promise10NoSuchPerson);
        s.promise(11, "Returns the barge on which this one is; -1 for none.",
            BoundariesOfWhoLiesWhere::promise11MinusOneForNone);
        s.promise(11, NO_PERSON, BoundariesOfWhoLiesWhere::promise11NoSuchPerson);
        s.promise(12, "Returns whether this one is at home.", BoundariesOfWhoLiesWhere::promise12AtHome);
        s.promise(12, NO_PERSON, BoundariesOfWhoLiesWhere::promise12NoSuchPerson);
        s.promise(13, "Returns whether this one is in the great house.",
            BoundariesOfWhoLiesWhere::promise13InTheGreatHouse);
        s.promise(13, NO_PERSON, BoundariesOfWhoLiesWhere::promise13NoSuchPerson);
        s.promise(14, "Returns how many days this one was hungry in all.",
            BoundariesOfWhoLiesWhere::promise14HungryInAll);
        s.promise(14, NO_PERSON, BoundariesOfWhoLiesWhere::promise14NoSuchPerson);

        s.promise(15, "Returns how many places it has.", BoundariesOfWhoLiesWhere::promise15EmptyAndFull);
        s.promise(15, NO_WARD, BoundariesOfWhoLiesWhere::promise15NoSuchWard);
        s.promise(16, "Returns how many people are in it.", BoundariesOfWhoLiesWhere::promise16EmptyAndFull);
        s.promise(16, NO_WARD, BoundariesOfWhoLiesWhere::promise16NoSuchWard);
        s.promise(17, "Returns how many days old its straw is.", BoundariesOfWhoLiesWhere::promise17FreshAndOld);
        s.promise(17, NO_WARD, BoundariesOfWhoLiesWhere::promise17NoSuchWard);
        s.promise(18, "Returns the fevers of all people in it, added.",
            BoundariesOfWhoLiesWhere::promise18EmptyAndFull);
        s.promise(18, NO_WARD, BoundariesOfWhoLiesWhere::promise18NoSuchWard);

        s.promise(19, "0 if it is at the quay", BoundariesOfWhoLiesWhere::promise19ZeroAtTheQuay);
        s.promise(19, NO_BARGE, BoundariesOfWhoLiesWhere::promise19NoSuchBarge);
        s.promise(20, "Returns for how many days it is kept at first.",
            BoundariesOfWhoLiesWhere::promise20KeptAtFirst);
        s.promise(20, NO_BARGE, BoundariesOfWhoLiesWhere::promise20NoSuchBarge);
        s.promise(21, "Returns how many people are on it.", BoundariesOfWhoLiesWhere::promise21EmptyAndFull);
        s.promise(21, NO_BARGE, BoundariesOfWhoLiesWhere::promise21NoSuchBarge);
        s.promise(22, "Returns the highest fever of a person on it",
            BoundariesOfWhoLiesWhere::promise22HighestWhereverItIs);
        s.promise(22, "0 without one", BoundariesOfWhoLiesWhere::promise22ZeroWithoutOne);
        s.promise(22, NO_BARGE, BoundariesOfWhoLiesWhere::promise22NoSuchBarge);
    }

    /** In ward 0 and 4, on barge 0 and 3, at home, in the great house. */
    private static BargeWards everywhere() {
        BargeWards t = Towns.landed(Towns.places(1, 1, 1, 1, 1), 5, 5, 0, 9);
        t.carry(1, 4);
        t.setBowls(1);
        t.addBarge(8);
        t.addBarge(8);
        t.addBarge(8);
        // Ward 0 eats; person 3 in ward 2 and person 1 in ward 4 are hungry.
        t.pass(1);
        t.setBowls(20);
        t.board(0, 3);
        t.board(3, 4);
        return t;
    }

    private static void answers(String name, BargeWards t, Towns.CallAt call, int... want) {
        for (int at = 0; at < want.length; at++) {
            Check.due(name + "(" + at + ")", call.on(t, at), want[at]);
        }
    }

    // ---- people

    private static void promise9From0To10() {
        BargeWards aboard = Towns.aboard(9, 0, 1, 8, 9);
        answers("aboard: feverOf", aboard, BargeWards::feverOf, 0, 1, 8, 9);
        aboard.pass(1);
        answers("a day later: feverOf", aboard, BargeWards::feverOf, 1, 2, 9, 10);
        answers("everywhere: feverOf", everywhere(), BargeWards::feverOf, 4, 6, 0, 10, 3, 4);
    }

    private static void promise9NoSuchPerson() {
        Towns.noSuchPerson("feverOf", BargeWards::feverOf);
    }

    private static void promise10MinusOneForNone() {
        answers("wardOf", everywhere(), BargeWards::wardOf, 0, 4, -1, -1, -1, -1);
        BargeWards t = Towns.landed(Towns.places(1), 1, 3);
        answers("a full ward: wardOf", t, BargeWards::wardOf, 0, -1);
        t.pass(1);
        answers("a day later: wardOf", t, BargeWards::wardOf, -1, 0);
    }

    private static void promise10NoSuchPerson() {
        Towns.noSuchPerson("wardOf", BargeWards::wardOf);
    }

    private static void promise11MinusOneForNone() {
        answers("bargeOf", everywhere(), BargeWards::bargeOf, -1, -1, -1, -1, 0, 3);
        BargeWards t = Towns.landed(Towns.places(1), 1, 3);
        answers("a full ward: bargeOf", t, BargeWards::bargeOf, -1, 0);
        t.pass(1);
        answers("a day later: bargeOf", t, BargeWards::bargeOf, -1, -1);
    }

    private static void promise11NoSuchPerson() {
        Towns.noSuchPerson("bargeOf", BargeWards::bargeOf);
    }

    private static void promise12AtHome() {
        answers("isHome", everywhere(), (t, p) -> t.isHome(p) ? 1 : 0, 0, 0, 1, 0, 0, 0);
        BargeWards t = Towns.aboard(2, 0);
        Check.due("2 days ahead", t.isHome(0), false);
        t.pass(1);
        Check.due("a day ahead", t.isHome(0), false);
        t.pass(1);
        Check.due("on the day", t.isHome(0), true);
        t.pass(40);
        Check.due("40 days later", t.isHome(0), true);
    }

    private static void promise12NoSuchPerson() {
        Towns.noSuchPerson("isHome", (t, p) -> t.isHome(p) ? 1 : 0);
    }

    private static void promise13InTheGreatHouse() {
        answers("isInGreatHouse", everywhere(), (t, p) -> t.isInGreatHouse(p) ? 1 : 0, 0, 0, 0, 1, 0, 0);
        BargeWards t = Towns.landed(Towns.places(1), 8);
        t.setBowls(0);
        Check.due("2 days ahead", t.isInGreatHouse(0), false);
        t.pass(1);
        Check.due("a day ahead", t.isInGreatHouse(0), false);
        t.pass(1);
        Check.due("on the day", t.isInGreatHouse(0), true);
        t.setBowls(60);
        t.pass(40);
        Check.due("40 days later", t.isInGreatHouse(0), true);
    }

    private static void promise13NoSuchPerson() {
        Towns.noSuchPerson("isInGreatHouse", (t, p) -> t.isInGreatHouse(p) ? 1 : 0);
    }

    private static void promise14HungryInAll() {
        answers("hungryDaysOf", everywhere(), BargeWards::hungryDaysOf, 0, 1, 0, 1, 0, 0);
        BargeWards t = Towns.landed(Towns.places(1, 1), 6);
        int[] bowls = {1, 0, 0, 1, 0, 1};
        int[] want = {0, 1, 2, 2, 3, 3};
        for (int day = 0; day < bowls.length; day++) {
            t.setBowls(bowls[day]);
            t.layStraw(0);
            t.pass(1);
            Check.due("hungryDaysOf behind the day " + day, t.hungryDaysOf(0), want[day]);
        }
        t.carry(0, 1);
        Check.due("hungryDaysOf, carried", t.hungryDaysOf(0), 3);
        t.setBowls(0);
        t.pass(40);
        Check.due("in the great house", t.isInGreatHouse(0), true);
        // The fever was 6 behind these days: 4 more hungry ones make it 10.
        Check.due("hungryDaysOf, with the last day, and no day there", t.hungryDaysOf(0), 3 + 4);
    }

    private static void promise14NoSuchPerson() {
        Towns.noSuchPerson("hungryDaysOf", BargeWards::hungryDaysOf);
    }

    // ---- wards

    private static void promise15EmptyAndFull() {
        for (int places = 1; places <= 8; places++) {
            BargeWards t = Towns.withWards(places);
            Check.due("placesOf an empty ward", t.placesOf(0), places);
            BargeWards full = Towns.landed(Towns.places(places, 1), 5, 5, 5, 5, 5, 5, 5, 5, 5);
            Check.due("placesOf a full ward", full.placesOf(0), places);
        }
    }

    private static void promise15NoSuchWard() {
        Towns.noSuchWard("placesOf", BargeWards::placesOf);
    }

    private static void promise16EmptyAndFull() {
        for (int people = 0; people <= 9; people++) {
            BargeWards t = Towns.crowded(people);
            Check.due("peopleIn(0) of " + people, t.peopleIn(0), Math.min(8, people));
            Check.due("peopleIn(1) of " + people, t.peopleIn(1), Math.max(0, people - 8));
            Check.due("peopleIn(4) of " + people, t.peopleIn(4), 0);
        }
        answers("everywhere: peopleIn", everywhere(), BargeWards::peopleIn, 1, 0, 0, 0, 1);
    }

    private static void promise16NoSuchWard() {
        Towns.noSuchWard("peopleIn", BargeWards::peopleIn);
    }

    private static void promise17FreshAndOld() {
        BargeWards t = Towns.withWards(1, 1);
        for (int day = 0; day <= 6; day++) {
            Check.due("strawOf(0) on the day " + day, t.strawOf(0), day);
            t.pass(1);
        }
        t.layStraw(0);
        Check.due("strawOf(0), laid", t.strawOf(0), 0);
        Check.due("strawOf(1), not laid", t.strawOf(1), 7);
        t.pass(40);
        Check.due("strawOf(0), 40 days old", t.strawOf(0), 40);
    }

    private static void promise17NoSuchWard() {
        Towns.noSuchWard("strawOf", BargeWards::strawOf);
    }

    /** Ward 0 is empty, then has one person, then is full of fevers of 10. */
    private static void promise18EmptyAndFull() {
        Check.due("nobody: feversIn(0)", Towns.withWards(8).feversIn(0), 0);
        BargeWards one = Towns.landed(Towns.places(8), 1);
        Check.due("one of 1: feversIn(0)", one.feversIn(0), 1);
        one.pass(1);
        Check.due("who is home: feversIn(0)", one.feversIn(0), 0);
        BargeWards full = Towns.withWards(8, 8);
        full.addBarge(2);
        Towns.boardAll(full, 0, 9, 9, 9, 9, 9, 9, 9, 9, 9);
        full.pass(2);
        Check.due("eight of 10: feversIn(0)", full.feversIn(0), 80);
        Check.due("one of 10: feversIn(1)", full.feversIn(1), 10);
        answers("everywhere: feversIn", everywhere(), BargeWards::feversIn, 4, 0, 0, 0, 6);
    }

    private static void promise18NoSuchWard() {
        Towns.noSuchWard("feversIn", BargeWards::feversIn);
    }

    // ---- barges

    private static void promise19ZeroAtTheQuay() {
        BargeWards t = Towns.withBarges(1, 2, 9);
        answers("on the day 0: daysToGo", t, BargeWards::daysToGo, 1, 2, 9);
        t.pass(1);
        answers("on the day 1: daysToGo", t, BargeWards::daysToGo, 0, 1, 8);
        t.pass(1);
        answers("on the day 2: daysToGo", t, BargeWards::daysToGo, 0, 0, 7);
        t.board(1, 1);
        answers("one boarded barge 1: daysToGo", t, BargeWards::daysToGo, 0, 2, 7);
        t.pass(2);
        answers("one stays on barge 1: daysToGo", t, BargeWards::daysToGo, 0, 2, 5);
        t.pass(40);
        answers("40 days later: daysToGo", t, BargeWards::daysToGo, 0, 2, 0);
    }

    private static void promise19NoSuchBarge() {
        Towns.noSuchBarge("daysToGo", BargeWards::daysToGo);
    }

    private static void promise20KeptAtFirst() {
        for (int kept = 1; kept <= 9; kept++) {
            BargeWards t = Towns.withBarges(kept);
            for (int day = 0; day <= kept; day++) {
                Check.due("keptFor on the day " + day, t.keptFor(0), kept);
                t.pass(1);
            }
            t.board(0, 1);
            t.pass(1);
            Check.due("keptFor, kept again", t.keptFor(0), kept);
        }
    }

    private static void promise20NoSuchBarge() {
        Towns.noSuchBarge("keptFor", BargeWards::keptFor);
    }

    private static void promise21EmptyAndFull() {
        BargeWards t = Towns.withBarges(1, 9, 9, 9);
        for (int people = 0; people <= 30; people++) {
            Check.due("peopleOn(0) of " + people, t.peopleOn(0), people);
            Check.due("peopleOn(3) of " + people, t.peopleOn(3), 0);
            if (people < 30) {
                t.board(0, people < 2 ? 0 : 5);
            }
        }
        t.addWard(8);
        t.pass(1);
        Check.due("peopleOn(0): 2 went home, 8 to the ward", t.peopleOn(0), 20);
        Check.due("nobody left: peopleOn(0)", everywhere().peopleOn(1), 0);
    }

    private static void promise21NoSuchBarge() {
        Towns.noSuchBarge("peopleOn", BargeWards::peopleOn);
    }

    private static void promise22HighestWhereverItIs() {
        for (int sick = 0; sick < 5; sick++) {
            BargeWards t = Towns.withBarges(9, 9);
            for (int p = 0; p < 5; p++) {
                t.board(0, p == sick ? 7 : p + 1);
            }
            t.board(1, 9);
            Check.due("highestFeverOn(0), of " + sick, t.highestFeverOn(0), 7);
            t.pass(3);
            Check.due("highestFeverOn(0), of " + sick + ", 3 days later", t.highestFeverOn(0), 10);
            Check.due("highestFeverOn(1)", t.highestFeverOn(1), 9);
        }
        BargeWards one = Towns.aboard(9, 0, 1);
        Check.due("highestFeverOn of 0 and 1", one.highestFeverOn(0), 1);
        for (int sick = 0; sick < 30; sick += 29) {
            BargeWards full = Towns.withBarges(9);
            for (int p = 0; p < 30; p++) {
                full.board(0, p == sick ? 9 : 8);
            }
            Check.due("highestFeverOn(0), of " + sick + " of 30", full.highestFeverOn(0), 9);
        }
    }

    private static void promise22ZeroWithoutOne() {
        BargeWards t = Towns.withBarges(1, 9);
        Check.due("nobody was on it", t.highestFeverOn(0), 0);
        t.addWard(1);
        Towns.boardAll(t, 0, 0, 0);
        t.board(1, 8);
        Check.due("two without a fever", t.highestFeverOn(0), 0);
        t.board(0, 1);
        Check.due("and one of 1", t.highestFeverOn(0), 1);
        t.pass(1);
        Check.due("all went ashore", t.highestFeverOn(0), 0);
        Check.due("barge 1 as before", t.highestFeverOn(1), 8);
    }

    private static void promise22NoSuchBarge() {
        Towns.noSuchBarge("highestFeverOn", BargeWards::highestFeverOn);
    }
}
