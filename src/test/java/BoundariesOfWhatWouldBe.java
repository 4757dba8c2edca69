import java.math.BigInteger;
import java.util.ArrayList;
import java.util.List;

/** Promises 33 to 39: questions about coming days, the mean fever and the digest. */
final class BoundariesOfWhatWouldBe {
    private static final String NOT_1_TO_40 = "Throws `IllegalArgumentException` if days is not 1 to 40";

    private BoundariesOfWhatWouldBe() {
    }

    static void run(Sentences s) {
        s.promise(33, "0 if it is so now", BoundariesOfWhatWouldBe::promise33ZeroIfItIsSoNow);
        s.promise(33, "Returns behind how many days this one is at home", BoundariesOfWhatWouldBe::promise33BehindDays);
        s.promise(33, "at most 60", BoundariesOfWhatWouldBe::promise33TheLongestWaits);
        s.promise(33, "-1 if not by then", BoundariesOfWhatWouldBe::promise33MinusOneIfNot);
        s.promise(33, "if nothing else is done", BoundariesOfWhatWouldBe::promise33IfNothingElseIsDone);
        s.promise(33, "(nothing is changed)", BoundariesOfWhatWouldBe::promise33NothingIsChanged);
        s.promise(33, "Throws `IndexOutOfBoundsException` if there is no such person",
            BoundariesOfWhatWouldBe::promise33NoSuchPerson);

        s.promise(34, "Returns how many people would be at home behind them",
            BoundariesOfWhatWouldBe::promise34OnTheVeryDay);
        s.promise(34, "would be at home behind them", BoundariesOfWhatWouldBe::promise34NoneToAll);
        s.promise(34, "if nothing else is done (nothing is changed)",
            BoundariesOfWhatWouldBe::promise34NothingIsChanged);
        s.promise(34, NOT_1_TO_40, BoundariesOfWhatWouldBe::promise34DaysIsNot1To40);

        s.promise(35, "Returns how many people would be in the great house behind them",
            BoundariesOfWhatWouldBe::promise35OnTheVeryDay);
        s.promise(35, "would be in the great house behind them", BoundariesOfWhatWouldBe::promise35NoneToAll);
        s.promise(35, "would be in the great house behind them", BoundariesOfWhatWouldBe::promise35OnTheDay40);
        s.promise(35, "if nothing else is done (nothing is changed)",
            BoundariesOfWhatWouldBe::promise35NothingIsChanged);
        s.promise(35, NOT_1_TO_40, BoundariesOfWhatWouldBe::promise35DaysIsNot1To40);

        s.promise(36, "with it homeAfter() tells the most", BoundariesOfWhatWouldBe::promise36TellsTheMost);
        s.promise(36, "fresh straw laid now", BoundariesOfWhatWouldBe::promise36LaidNow);
        s.promise(36, "of several the smallest number", BoundariesOfWhatWouldBe::promise36OfSeveralTheSmallest);
        s.promise(36, "-1 if by none it would be more than without",
            BoundariesOfWhatWouldBe::promise36MinusOneIfNotMore);
        s.promise(36, "more than without", BoundariesOfWhatWouldBe::promise36MoreNotAsManyNorLess);
        s.promise(36, "(nothing is changed)", BoundariesOfWhatWouldBe::promise36NothingIsChanged);
        s.promise(36, NOT_1_TO_40, BoundariesOfWhatWouldBe::promise36DaysIsNot1To40);

        s.promise(37, "Returns the least number of bowls with which nobody in a ward would be hungry today.",
            BoundariesOfWhatWouldBe::promise37TheLeastNumber);
        s.promise(37, "nobody in a ward", BoundariesOfWhatWouldBe::promise37OnlyThoseInWards);

        s.promise(38, "Returns the mean fever of people in wards", BoundariesOfWhatWouldBe::promise38From1To10);
        s.promise(38, "of people in wards", BoundariesOfWhatWouldBe::promise38OnlyThoseInWards);
        s.promise(38, "0 without one", BoundariesOfWhatWouldBe::promise38ZeroWithoutOne);

        s.promise(39, "A number d starts with 1877", BoundariesOfWhatWouldBe::promise39OfANewTown);
        s.promise(39, "Returns d.", BoundariesOfWhatWouldBe::promise39OfABusyTown);
        s.promise(39, "which wraps around as a 64-bit integer", BoundariesOfWhatWouldBe::promise39WrapsAround);
        s.promise(39, "(whether something is so counts 1 or 0)", BoundariesOfWhatWouldBe::promise39Counts1Or0);
        s.promise(39, "then for each ward placesOf(), peopleIn(), strawOf(), feversIn()",
            BoundariesOfWhatWouldBe::promise39ForEachWard);
        s.promise(39, "then for each barge daysToGo(), keptFor(), peopleOn()",
            BoundariesOfWhatWouldBe::promise39ForEachBarge);
        s.promise(39, "then for each person feverOf(), wardOf(), bargeOf()",
            BoundariesOfWhatWouldBe::promise39ForEachPerson);
    }

    // ---- promise 33

    private static void promise33ZeroIfItIsSoNow() {
        BargeWards t = Towns.aboard(2, 0);
        Check.due("2 days ahead", t.daysUntilHome(0), 2);
        t.pass(1);
        Check.due("a day ahead", t.daysUntilHome(0), 1);
        t.pass(1);
        Check.due("now", t.daysUntilHome(0), 0);
        t.pass(40);
        Check.due("40 days later", t.daysUntilHome(0), 0);
    }

    private static void promise33BehindDays() {
        for (int fever = 1; fever <= 6; fever++) {
            BargeWards t = Towns.onStraw(0, fever);
            int want = fever <= 5 ? fever : -1;
            Check.due("a fever of " + fever + " on fresh straw", t.daysUntilHome(0), want);
            BargeWards aDay = Towns.onStraw(1, fever);
            Check.due("a fever of " + fever + " on straw of a day", aDay.daysUntilHome(0), fever <= 4 ? fever : -1);
            BargeWards aboard = Towns.aboard(2, fever);
            aboard.pass(1);
            aboard.addWard(1);
            Check.due("a fever of " + fever + " a day ahead of the quay", aboard.daysUntilHome(0),
                fever <= 4 ? 1 + fever : -1);
        }
    }

    /**
     * Straw is old by the fifth day and a fever never falls on a barge, which is kept for 9 days at
     * most: so, if nothing else is done, nobody gets home behind more than 9, and the 60 days of
     * the document can be looked at from below only. Who is not home in 60 days never is.
     */
    private static void promise33TheLongestWaits() {
        for (int kept = 1; kept <= 9; kept++) {
            BargeWards t = Towns.aboard(kept, 0);
            for (int waited = 0; waited <= kept; waited++) {
                Check.due("kept for " + kept + ", waited " + waited, t.daysUntilHome(0), kept - waited);
                t.pass(1);
            }
        }
        BargeWards never = Towns.filled();
        for (int p = 0; p < 30; p++) {
            if (never.daysUntilHome(p) == -1) {
                BargeWards later = Towns.filled();
                later.pass(40);
                later.pass(20);
                Check.due("isHome(" + p + ") behind 60 days", later.isHome(p), false);
            }
        }
    }

    private static void promise33MinusOneIfNot() {
        BargeWards t = Towns.landed(Towns.places(8), 4, 5, 9);
        Check.due("a fever of 4 on straw of a day", t.daysUntilHome(0), 4);
        Check.due("a fever of 5 on straw of a day", t.daysUntilHome(1), -1);
        t.setBowls(0);
        Check.due("without bowls", t.daysUntilHome(0), -1);
        t.pass(1);
        Check.due("in the great house", t.daysUntilHome(2), -1);
        BargeWards noWard = Towns.aboard(1, 1);
        Check.due("on a barge, no wards", noWard.daysUntilHome(0), -1);
        noWard.addWard(1);
        Check.due("on a barge, a ward", noWard.daysUntilHome(0), 2);
    }

    private static void promise33IfNothingElseIsDone() {
        BargeWards t = Towns.onStraw(1, 5);
        Check.due("if no fresh straw is laid", t.daysUntilHome(0), -1);
        t.pass(1);
        t.layStraw(0);
        Check.due("as it is laid", t.daysUntilHome(0), 4);
        t.pass(4);
        Check.due("behind 4 days", t.isHome(0), true);
        BargeWards kept = Towns.withWards(1);
        kept.addBarge(1);
        kept.addBarge(2);
        kept.board(0, 2);
        kept.board(1, 1);
        Check.due("kept again as the ward is full", kept.daysUntilHome(1), 5);
        kept.pass(4);
        Check.due("behind 4 of 5 days", kept.isHome(1), false);
        kept.pass(1);
        Check.due("behind 5 of 5 days", kept.isHome(1), true);
    }

    private static void promise33NothingIsChanged() {
        BargeWards t = Towns.busy();
        for (int p = 0; p < 5; p++) {
            t.daysUntilHome(p);
        }
        Towns.alike("behind daysUntilHome", t, Towns.busy());
        for (int p = 0; p < 30; p++) {
            askedAndAlike("daysUntilHome", p, BargeWards::daysUntilHome);
        }
    }

    /** Five wards, four barges, 30 people, of whom some were hungry: asking changes none of it. */
    private static void askedAndAlike(String name, int about, Towns.CallAt question) {
        BargeWards asked = Towns.hungry();
        question.on(asked, about);
        Towns.alike("behind " + name + "(" + about + ") in a full town", asked, Towns.hungry());
    }

    private static void promise33NoSuchPerson() {
        Towns.noSuchPerson("daysUntilHome", BargeWards::daysUntilHome);
    }

    // ---- promises 34 and 35

    private static void promise34OnTheVeryDay() {
        for (int kept = 1; kept <= 9; kept++) {
            BargeWards t = Towns.aboard(kept, 0);
            for (int days = 1; days <= 10; days++) {
                Check.due("homeAfter(" + days + "), kept for " + kept, t.homeAfter(days), days < kept ? 0 : 1);
            }
            Check.due("homeAfter(39), kept for " + kept, t.homeAfter(39), 1);
            Check.due("homeAfter(40), kept for " + kept, t.homeAfter(40), 1);
        }
    }

    private static void promise34NoneToAll() {
        Check.due("nobody", new BargeWards().homeAfter(40), 0);
        BargeWards t = Towns.landed(Towns.places(8), 0, 1, 9);
        Check.due("with one who is at home now", t.homeAfter(1), 2);
        BargeWards all = Towns.withBarges(1, 2, 3, 4);
        for (int i = 0; i < 30; i++) {
            all.board(i < 7 ? 0 : i < 15 ? 1 : i < 29 ? 2 : 3, 0);
        }
        int[] want = {7, 15, 29, 30, 30};
        for (int days = 1; days <= 5; days++) {
            Check.due("homeAfter(" + days + ") of 30", all.homeAfter(days), want[days - 1]);
        }
    }

    private static void promise34NothingIsChanged() {
        int[] some = {1, 2, 39, 40};
        for (int days : some) {
            BargeWards t = Towns.busy();
            int foretold = t.homeAfter(days);
            Towns.alike("behind homeAfter(" + days + ")", t, Towns.busy());
            askedAndAlike("homeAfter", days, BargeWards::homeAfter);
            t.pass(days);
            Check.due("peopleHome() behind " + days, t.peopleHome(), foretold);
        }
    }

    private static void promise34DaysIsNot1To40() {
        Towns.refusedArguments("homeAfter", Towns::busy, BargeWards::homeAfter,
            0, -1, -40, 41, 42, 60, 257, 296, Towns.MIN, Towns.MAX);
        Check.due("homeAfter(1)", Towns.busy().homeAfter(1), 1);
        Check.due("homeAfter(2)", Towns.busy().homeAfter(2), 1);
        Check.due("homeAfter(39)", Towns.busy().homeAfter(39), 2);
        Check.due("homeAfter(40)", Towns.busy().homeAfter(40), 2);
    }

    private static void promise35OnTheVeryDay() {
        for (int fever = 1; fever <= 9; fever++) {
            BargeWards t = Towns.landed(Towns.places(1), fever);
            t.setBowls(0);
            for (int days = 1; days <= 10; days++) {
                Check.due("greatHouseAfter(" + days + ") of " + fever, t.greatHouseAfter(days),
                    fever + days < 10 ? 0 : 1);
            }
        }
    }

    private static void promise35NoneToAll() {
        Check.due("nobody", new BargeWards().greatHouseAfter(40), 0);
        Check.due("with one who is there now", Towns.busy().greatHouseAfter(1), 1);
        BargeWards all = Towns.crowded(30);
        all.setBowls(0);
        Check.due("greatHouseAfter(4) of 30", all.greatHouseAfter(4), 0);
        Check.due("greatHouseAfter(5) of 30", all.greatHouseAfter(5), 30);
        BargeWards aboard = Towns.aboard(9, 9, 9);
        Check.due("10 on a barge is not the great house", aboard.greatHouseAfter(40), 0);
        BargeWards ashore = Towns.aboard(9, 9, 9);
        ashore.addWard(8);
        Check.due("greatHouseAfter(9), landed with 10", ashore.greatHouseAfter(9), 0);
        Check.due("greatHouseAfter(10), on old straw", ashore.greatHouseAfter(10), 2);
    }

    /** Barge and ward take turns, so that the last of five goes there on the day 40. */
    private static void promise35OnTheDay40() {
        BargeWards t = Towns.withWards(1);
        t.addBarge(9);
        Towns.boardAll(t, 0, 9, 9, 9, 9, 9);
        // They land on the days 9, 18, 27, 36 and 45, and old straw brings each away a day later.
        int[] days = {9, 10, 18, 19, 27, 28, 36, 37, 40};
        int[] want = {0, 1, 1, 2, 2, 3, 3, 4, 4};
        for (int i = 0; i < days.length; i++) {
            Check.due("greatHouseAfter(" + days[i] + ")", t.greatHouseAfter(days[i]), want[i]);
        }
        t.pass(6);
        Check.due("on the day 6: greatHouseAfter(39)", t.greatHouseAfter(39), 4);
        Check.due("on the day 6: greatHouseAfter(40)", t.greatHouseAfter(40), 5);
    }

    private static void promise35NothingIsChanged() {
        int[] some = {1, 2, 39, 40};
        for (int days : some) {
            BargeWards t = Towns.busy();
            t.setBowls(0);
            BargeWards twin = Towns.busy();
            twin.setBowls(0);
            int foretold = t.greatHouseAfter(days);
            Towns.alike("behind greatHouseAfter(" + days + ")", t, twin);
            askedAndAlike("greatHouseAfter", days, BargeWards::greatHouseAfter);
            t.pass(days);
            Check.due("peopleInGreatHouse() behind " + days, t.peopleInGreatHouse(), foretold);
        }
    }

    private static void promise35DaysIsNot1To40() {
        Towns.refusedArguments("greatHouseAfter", Towns::busy, BargeWards::greatHouseAfter,
            0, -1, -40, 41, 42, 60, 257, 296, Towns.MIN, Towns.MAX);
        Check.due("greatHouseAfter(1)", Towns.busy().greatHouseAfter(1), 1);
        Check.due("greatHouseAfter(2)", Towns.busy().greatHouseAfter(2), 1);
        Check.due("greatHouseAfter(39)", Towns.busy().greatHouseAfter(39), 3);
        Check.due("greatHouseAfter(40)", Towns.busy().greatHouseAfter(40), 3);
    }

    // ---- promise 36

    /** Wards of 1 place each with old straw; as many people as fevers, ward by ward. */
    private static BargeWards onOldStraw(int[] places, int... fevers) {
        BargeWards t = Towns.withWards(places);
        t.addBarge(1);
        t.pass(8);
        Towns.boardAll(t, 0, fevers);
        t.pass(1);
        return t;
    }

    private static void promise36TellsTheMost() {
        BargeWards t = onOldStraw(Towns.places(1, 3, 2), 1, 1, 1, 1, 1, 1);
        Check.due("wards of 1, 3 and 2", t.bestStraw(1), 1);
        t.layStraw(1);
        Check.due("wards of 1 and 2", t.bestStraw(1), 2);
        t.layStraw(2);
        Check.due("a ward of 1", t.bestStraw(1), 0);
        t.layStraw(0);
        Check.due("none", t.bestStraw(1), -1);
        BargeWards last = onOldStraw(Towns.places(1, 1, 1, 1, 2), 1, 1, 1, 1, 1, 1);
        Check.due("the last of five", last.bestStraw(1), 4);
        BargeWards first = onOldStraw(Towns.places(2, 1, 1, 1, 1), 1, 1, 1, 1, 1, 1);
        Check.due("the first of five", first.bestStraw(1), 0);
        BargeWards byDays = onOldStraw(Towns.places(1, 2), 2, 1, 4);
        int[] want = {1, 0, 0, 1, 1};
        for (int days = 1; days <= want.length; days++) {
            Check.due("2 in ward 0, 1 and 4 in ward 1: bestStraw(" + days + ")", byDays.bestStraw(days), want[days - 1]);
        }
    }

    /** It is 0 days old today, so it helps for 5 days: 5 is healed on the fifth, and 6 is not. */
    private static void promise36LaidNow() {
        for (int fever = 1; fever <= 6; fever++) {
            BargeWards t = onOldStraw(Towns.places(1), fever);
            int[] some = {1, 2, 3, 4, 5, 6, 39, 40};
            for (int days : some) {
                boolean helps = fever <= 5 && days >= fever;
                Check.due("bestStraw(" + days + ") of " + fever, t.bestStraw(days), helps ? 0 : -1);
            }
        }
    }

    private static void promise36OfSeveralTheSmallest() {
        BargeWards t = onOldStraw(Towns.places(1, 1, 1, 1, 1), 1, 1, 1, 1, 1);
        for (int ward = 0; ward < 5; ward++) {
            Check.due("bestStraw(1), fresh below " + ward, t.bestStraw(1), ward);
            t.layStraw(ward);
        }
        Check.due("bestStraw(1), fresh in all", t.bestStraw(1), -1);
        BargeWards notFirst = onOldStraw(Towns.places(1, 2, 2), 1, 1, 1, 1, 1);
        Check.due("wards 1 and 2 help two, ward 0 helps one", notFirst.bestStraw(1), 1);
    }

    private static void promise36MinusOneIfNotMore() {
        Check.due("no wards", new BargeWards().bestStraw(1), -1);
        Check.due("empty wards", Towns.withWards(1, 1).bestStraw(40), -1);
        BargeWards young = Towns.onStraw(4, 1);
        Check.due("straw of 4 days is good for a fever of 1", young.bestStraw(40), -1);
        BargeWards young2 = Towns.onStraw(4, 2);
        Check.due("but not for one of 2", young2.bestStraw(40), 0);
        Check.due("for which a day is too short", young2.bestStraw(1), -1);
        Check.due("and two are not", young2.bestStraw(2), 0);
        BargeWards fresh = Towns.onStraw(0, 6);
        Check.due("straw that is fresh", fresh.bestStraw(40), -1);
        BargeWards hungry = onOldStraw(Towns.places(1), 1);
        hungry.setBowls(0);
        Check.due("fresh straw for the hungry", hungry.bestStraw(40), -1);
        BargeWards homeAnyway = Towns.aboard(1, 0);
        homeAnyway.addWard(1);
        Check.due("who gets home anyway", homeAnyway.bestStraw(1), -1);
    }

    /**
     * One bowl for two wards: on old straw person 0 leaves for the great house, and person 1 eats.
     * With fresh straw in ward 0, person 0 stays and eats person 1's bowl, so fewer get home.
     */
    private static void promise36MoreNotAsManyNorLess() {
        BargeWards t = Towns.withWards(1);
        t.addBarge(1);
        t.pass(4);
        t.addWard(1);
        Towns.boardAll(t, 0, 9, 2);
        t.pass(1);
        t.layStraw(1);
        t.setBowls(1);
        Check.due("homeAfter(4) without", t.homeAfter(4), 1);
        Check.due("ward 0 less, ward 1 as many", t.bestStraw(4), -1);
        t.layStraw(0);
        Check.due("homeAfter(4) with straw in ward 0", t.homeAfter(4), 0);
    }

    private static void promise36NothingIsChanged() {
        int[] some = {1, 5, 40};
        for (int days : some) {
            BargeWards t = onOldStraw(Towns.places(1, 2), 3, 2, 1);
            t.setBowls(2);
            BargeWards twin = onOldStraw(Towns.places(1, 2), 3, 2, 1);
            twin.setBowls(2);
            t.bestStraw(days);
            Check.due("strawOf(0) behind bestStraw(" + days + ")", t.strawOf(0), 9);
            Check.due("strawOf(1) behind bestStraw(" + days + ")", t.strawOf(1), 9);
            Towns.alike("behind bestStraw(" + days + ")", t, twin);
            askedAndAlike("bestStraw", days, BargeWards::bestStraw);
        }
    }

    private static void promise36DaysIsNot1To40() {
        Towns.Maker old = () -> onOldStraw(Towns.places(1), 1);
        Towns.refusedArguments("bestStraw", old, BargeWards::bestStraw,
            0, -1, -40, 41, 42, 60, 257, 296, Towns.MIN, Towns.MAX);
        Towns.refusedArguments("bestStraw without wards", BargeWards::new, BargeWards::bestStraw, 0, 41);
        int[] right = {1, 2, 39, 40};
        for (int days : right) {
            Check.due("bestStraw(" + days + ")", old.make().bestStraw(days), 0);
        }
    }

    // ---- promise 37

    private static void promise37TheLeastNumber() {
        for (int people = 0; people <= 30; people++) {
            BargeWards t = Towns.crowded(people);
            int needed = t.bowlsNeeded();
            Check.due("bowlsNeeded() of " + people, needed, people);
            t.setBowls(needed);
            Check.due("with them, hungry of " + people, t.bowlsShort(), 0);
            if (needed > 0) {
                t.setBowls(needed - 1);
                Check.due("with one less, hungry of " + people, t.bowlsShort(), 1);
            }
            t.setBowls(0);
            Check.due("whatever there are, bowlsNeeded() of " + people, t.bowlsNeeded(), people);
        }
    }

    private static void promise37OnlyThoseInWards() {
        Check.due("nobody", new BargeWards().bowlsNeeded(), 0);
        Check.due("two on a barge", Towns.aboard(2, 5, 5).bowlsNeeded(), 0);
        Check.due("two of five in wards", Towns.busy().bowlsNeeded(), 2);
        Check.due("one stays on the barge", Towns.landed(Towns.places(1), 5, 5).bowlsNeeded(), 1);
    }

    // ---- promise 38

    private static void promise38From1To10() {
        Check.dueDouble("one of 1", Towns.landed(Towns.places(8), 1).meanFever(), 1.0);
        Check.dueDouble("1 and 2", Towns.landed(Towns.places(8), 1, 2).meanFever(), 1.5);
        Check.dueDouble("1, 2 and 2", Towns.landed(Towns.places(8), 1, 2, 2).meanFever(), 5.0 / 3.0);
        Check.dueDouble("in two wards", Towns.landed(Towns.places(1, 2), 9, 1, 3).meanFever(), 13.0 / 3.0);
        Check.dueDouble("30 of 5", Towns.crowded(30).meanFever(), 5.0);
        BargeWards high = Towns.withWards(8);
        high.addBarge(2);
        Towns.boardAll(high, 0, 9, 9);
        high.pass(2);
        Check.dueDouble("two of 10", high.meanFever(), 10.0);
    }

    private static void promise38OnlyThoseInWards() {
        Check.dueDouble("4 and 5 in wards; 0, 10 and 3 elsewhere", Towns.busy().meanFever(), 4.5);
        BargeWards t = Towns.landed(Towns.places(1), 2, 9, 0);
        Check.dueDouble("2 in a ward, 9 on the barge, 0 at home", t.meanFever(), 2.0);
    }

    private static void promise38ZeroWithoutOne() {
        Check.dueDouble("nobody", new BargeWards().meanFever(), 0.0);
        Check.dueDouble("empty wards", Towns.withWards(8, 8).meanFever(), 0.0);
        Check.dueDouble("two on a barge", Towns.aboard(2, 5, 9).meanFever(), 0.0);
        BargeWards t = Towns.landed(Towns.places(8), 1, 9);
        Check.dueDouble("two in a ward", t.meanFever(), 5.0);
        t.setBowls(1);
        t.pass(1);
        Check.dueDouble("one at home, one in the great house", t.meanFever(), 0.0);
    }

    // ---- promise 39

    private static BigInteger unbounded(List<Long> numbers) {
        BigInteger d = BigInteger.valueOf(1877);
        for (long x : numbers) {
            d = d.multiply(BigInteger.valueOf(31)).add(BigInteger.valueOf(x));
        }
        return d;
    }

    private static long digestOf(long... numbers) {
        List<Long> list = new ArrayList<>();
        for (long x : numbers) {
            list.add(x);
        }
        return unbounded(list).longValue();
    }

    private static List<Long> answersOf(BargeWards t) {
        List<Long> all = new ArrayList<>();
        long[] town = {t.day(), t.wards(), t.barges(), t.people(), t.bowls(), t.bowlsEaten()};
        for (long x : town) {
            all.add(x);
        }
        for (int w = 0; w < t.wards(); w++) {
            long[] ward = {t.placesOf(w), t.peopleIn(w), t.strawOf(w), t.feversIn(w)};
            for (long x : ward) {
                all.add(x);
            }
        }
        for (int b = 0; b < t.barges(); b++) {
            long[] barge = {t.daysToGo(b), t.keptFor(b), t.peopleOn(b)};
            for (long x : barge) {
                all.add(x);
            }
        }
        for (int p = 0; p < t.people(); p++) {
            long[] person = {t.feverOf(p), t.wardOf(p), t.bargeOf(p), t.isHome(p) ? 1 : 0,
                t.isInGreatHouse(p) ? 1 : 0, t.hungryDaysOf(p)};
            for (long x : person) {
                all.add(x);
            }
        }
        return all;
    }

    private static void promise39OfANewTown() {
        Check.due("of a new town", new BargeWards().digest(), digestOf(0, 0, 0, 0, 20, 0));
        BargeWards t = new BargeWards();
        t.setBowls(0);
        t.pass(40);
        Check.due("on the day 40 without bowls", t.digest(), digestOf(40, 0, 0, 0, 0, 0));
        BargeWards eaten = Towns.landed(Towns.places(1), 1);
        eaten.pass(1);
        Check.due("one bowl eaten, one at home", eaten.digest(),
            digestOf(2, 1, 1, 1, 20, 1, 1, 0, 2, 0, 0, 1, 0, 0, -1, -1, 1, 0, 0));
    }

    private static void promise39OfABusyTown() {
        BargeWards t = Towns.busy();
        long d = t.digest();
        Check.due("by the answers", d, unbounded(answersOf(t)).longValue());
        Check.due("asked again", t.digest(), d);
        t.setBowls(3);
        Check.due("one bowl more", t.digest() == d, false);
        t.setBowls(2);
        Check.due("and one less", t.digest(), d);
    }

    /** Ten numbers stay below 2 to the 63rd, and twelve do not. */
    private static void promise39WrapsAround() {
        BargeWards below = Towns.withWards(8);
        BigInteger small = unbounded(answersOf(below));
        Check.due("ten numbers fit into 63 bits", small.bitLength() <= 63, true);
        Check.due("and are as they are", below.digest(), small.longValueExact());
        BargeWards two = Towns.withBarges(9, 9);
        BigInteger wide = unbounded(answersOf(two));
        Check.due("twelve do not", wide.bitLength() > 64, true);
        Check.due("and wrap around", two.digest(), wide.longValue());
        BargeWards filled = Towns.filled();
        Check.due("the most numbers there can be", filled.digest(), unbounded(answersOf(filled)).longValue());
        long most = answersOf(Towns.filled()).size();
        Check.due("how many these are", most, 6 + 5 * 4 + 4 * 3 + 30 * 6);
    }

    /** One at home, one in the great house, one on barge 0. */
    private static void promise39Counts1Or0() {
        BargeWards t = Towns.landed(Towns.places(1), 9, 0);
        t.setBowls(0);
        t.board(0, 6);
        t.board(0, 2);
        t.pass(1);
        Check.due("digest()", t.digest(), digestOf(
            2, 1, 1, 4, 0, 0,
            1, 1, 2, 6,
            1, 1, 1,
            10, -1, -1, 0, 1, 1,
            0, -1, -1, 1, 0, 0,
            6, 0, -1, 0, 0, 0,
            2, -1, 0, 0, 0, 0));
    }

    private static void promise39ForEachWard() {
        Check.due("no ward", new BargeWards().digest(), digestOf(0, 0, 0, 0, 20, 0));
        BargeWards one = Towns.withWards(3);
        one.pass(2);
        Check.due("one ward", one.digest(), digestOf(2, 1, 0, 0, 20, 0, 3, 0, 2, 0));
        BargeWards five = Towns.withWards(1, 2, 3, 4, 5);
        five.pass(2);
        five.layStraw(4);
        Check.due("five wards", five.digest(), digestOf(2, 5, 0, 0, 20, 0,
            1, 0, 2, 0, 2, 0, 2, 0, 3, 0, 2, 0, 4, 0, 2, 0, 5, 0, 0, 0));
        BargeWards landed = Towns.landed(Towns.places(2), 7, 4);
        Check.due("two people in one", landed.digest(), digestOf(1, 1, 1, 2, 20, 0,
            2, 2, 1, 11, 0, 1, 0, 7, 0, -1, 0, 0, 0, 4, 0, -1, 0, 0, 0));
    }

    private static void promise39ForEachBarge() {
        BargeWards one = Towns.withBarges(7);
        one.pass(3);
        Check.due("one barge", one.digest(), digestOf(3, 0, 1, 0, 20, 0, 4, 7, 0));
        BargeWards four = Towns.withBarges(1, 3, 5, 9);
        four.pass(3);
        Check.due("four barges", four.digest(), digestOf(3, 0, 4, 0, 20, 0,
            0, 1, 0, 0, 3, 0, 2, 5, 0, 6, 9, 0));
        BargeWards aboard = Towns.aboard(7, 8, 0);
        Check.due("two people on one", aboard.digest(), digestOf(0, 0, 1, 2, 20, 0, 7, 7, 2,
            8, -1, 0, 0, 0, 0, 0, -1, 0, 0, 0, 0));
    }

    private static void promise39ForEachPerson() {
        for (int people = 0; people <= 30; people += 10) {
            BargeWards t = Towns.withPeople(people);
            t.setBowls(1);
            t.pass(1);
            Check.due("of " + people + " people", t.digest(), unbounded(answersOf(t)).longValue());
        }
        BargeWards carried = Towns.landed(Towns.places(1, 1), 5);
        carried.setBowls(0);
        carried.carry(0, 1);
        carried.pass(1);
        Check.due("one person", carried.digest(), digestOf(2, 2, 1, 1, 0, 0,
            1, 0, 2, 0, 1, 1, 2, 6, 0, 1, 0, 6, 1, -1, 0, 0, 1));
    }
}
