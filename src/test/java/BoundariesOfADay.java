/** The seven steps of a day, in the section "Terms": each edge, from both sides. */
final class BoundariesOfADay {
    private BoundariesOfADay() {
    }

    static void run(Sentences s) {
        s.terms("1. Bowls are given out: ward by ward", BoundariesOfADay::step1WardByWard);
        s.terms("in each person by person, by numbers", BoundariesOfADay::step1PersonByPersonByNumbers);
        s.terms("one for each, as long as there are some", BoundariesOfADay::step1OneForEachAsLongAsThereAreSome);
        s.terms("as long as there are some", BoundariesOfADay::step1BowlsForAFullTown);
        s.terms("the others in wards are hungry today", BoundariesOfADay::step1TheOthersInWardsAreHungry);
        s.terms("are hungry today", BoundariesOfADay::step1HungryIsOfToday);

        s.terms("2. Of each person in a ward", BoundariesOfADay::step2OnlyOfPeopleInWards);
        s.terms("if hungry, or the straw", BoundariesOfADay::step2HungryOrOldStrawOrBoth);
        s.terms("the straw of this ward is 5 days old or more", BoundariesOfADay::step2StrawOf5DaysOrMore);
        s.terms("the straw of this ward", BoundariesOfADay::step2StrawOfThisWard);
        s.terms("the fever is 1 more, at most 10", BoundariesOfADay::step2OneMoreAtMost10);
        s.terms("otherwise it is 1 less, at least 0", BoundariesOfADay::step2OneLessAtLeast0);
        s.terms("(Straw as old as it is ahead of step 4.)", BoundariesOfADay::step2StrawAheadOfStep4);

        s.terms("Barges that are not at the quay: the days to go are 1 less", BoundariesOfADay::step3DaysToGoAreOneLess);
        s.terms("On each of those that still are not at the quay", BoundariesOfADay::step3StillNotAtTheQuay);
        s.terms("each person has 1 more fever, at most 10", BoundariesOfADay::step3OneMoreAtMost10);
        s.terms("if another person on it has a fever", BoundariesOfADay::step3AnotherPerson);
        s.terms("another person on it", BoundariesOfADay::step3AnotherPersonOnThisBarge);
        s.terms("has a fever of 1 or more", BoundariesOfADay::step3AFeverOf1OrMore);
        s.terms("(as it was ahead of this)", BoundariesOfADay::step3AsItWasAheadOfThis);

        s.terms("4. Straw is 1 day older in each ward.", BoundariesOfADay::step4StrawIsOlderInEachWard);

        s.terms("with a fever of 0 this one goes home", BoundariesOfADay::step5WithAFeverOf0Home);
        s.terms("with one of 10 to the great house", BoundariesOfADay::step5With10ToTheGreatHouse);
        s.terms("5. Of each person in a ward", BoundariesOfADay::step5OnlyOfPeopleInWards);

        s.terms("6. Of each barge at the quay", BoundariesOfADay::step6OnlyOfBargesAtTheQuay);
        s.terms("Of each barge at the quay, by numbers", BoundariesOfADay::step6BargesByNumbers);
        s.terms("of each person on it, by numbers", BoundariesOfADay::step6PeopleByNumbers);
        s.terms("without a fever this one goes home", BoundariesOfADay::step6WithoutAFeverHome);
        s.terms("into the first ward, by numbers, that has a free place", BoundariesOfADay::step6FirstWardWithAFreePlace);
        s.terms("that has a free place", BoundariesOfADay::step6PlacesThatGotFreeInStep5);
        s.terms("that has a free place", BoundariesOfADay::step6WithAFeverOf10IntoAWard);
        s.terms("if there is none, this one stays on the barge", BoundariesOfADay::step6WithoutAPlaceStays);
        s.terms("A barge on which somebody stays is kept again", BoundariesOfADay::step6KeptAgainIfSomebodyStays);
        s.terms("is kept again, for as many days as at first", BoundariesOfADay::step6ForAsManyDaysAsAtFirst);

        s.terms("7. The day is 1 greater.", BoundariesOfADay::step7TheDayIsOneGreater);
    }

    // ---- step 1

    /** Person 0 lies in ward 1 and person 1 in ward 0, so wards and numbers go different ways. */
    private static void step1WardByWard() {
        for (int bowls = 0; bowls <= 2; bowls++) {
            BargeWards t = Towns.landed(Towns.places(2, 2), 5, 5);
            t.carry(0, 1);
            t.setBowls(bowls);
            t.pass(1);
            Check.due("ward 0 of " + bowls + " bowls, hungry", t.hungryDaysOf(1), bowls >= 1 ? 0 : 1);
            Check.due("ward 1 of " + bowls + " bowls, hungry", t.hungryDaysOf(0), bowls >= 2 ? 0 : 1);
        }
        BargeWards last = Towns.landed(Towns.places(1, 1, 1, 1, 1), 5, 5, 5, 5, 5);
        last.setBowls(4);
        last.pass(1);
        Check.due("ward 3 of 4 bowls, hungry", last.hungryDaysOf(3), 0);
        Check.due("ward 4 of 4 bowls, hungry", last.hungryDaysOf(4), 1);
    }

    /** They came into the ward as 2, 1, 0. */
    private static void step1PersonByPersonByNumbers() {
        for (int bowls = 0; bowls <= 3; bowls++) {
            BargeWards t = Towns.landed(Towns.places(3, 3), 5, 5, 5);
            for (int p = 2; p >= 0; p--) {
                t.carry(p, 1);
            }
            t.setBowls(bowls);
            t.pass(1);
            for (int p = 0; p < 3; p++) {
                Check.due("person " + p + " of " + bowls + " bowls, hungry", t.hungryDaysOf(p), p < bowls ? 0 : 1);
            }
        }
    }

    private static void step1OneForEachAsLongAsThereAreSome() {
        for (int bowls = 0; bowls <= 5; bowls++) {
            BargeWards t = Towns.landed(Towns.places(2, 2), 5, 5, 5);
            t.setBowls(bowls);
            t.pass(1);
            Check.due("bowlsEaten() of " + bowls + " by three", t.bowlsEaten(), Math.min(bowls, 3));
            for (int p = 0; p < 3; p++) {
                Check.due("feverOf(" + p + ") of " + bowls, t.feverOf(p), p < bowls ? 4 : 6);
            }
        }
    }

    private static void step1BowlsForAFullTown() {
        int[] some = {29, 30, 31, 60};
        for (int bowls : some) {
            BargeWards t = Towns.crowded(30);
            t.setBowls(bowls);
            t.pass(1);
            Check.due("bowlsEaten() of " + bowls, t.bowlsEaten(), Math.min(30, bowls));
            Check.due("hungryDaysOf(28) of " + bowls, t.hungryDaysOf(28), 0);
            Check.due("hungryDaysOf(29) of " + bowls, t.hungryDaysOf(29), bowls < 30 ? 1 : 0);
        }
    }

    private static void step1TheOthersInWardsAreHungry() {
        BargeWards t = Towns.busy();
        t.setBowls(0);
        t.pass(1);
        int[] want = {1, 1, 0, 1, 0};
        for (int p = 0; p < want.length; p++) {
            Check.due("hungryDaysOf(" + p + ") without bowls", t.hungryDaysOf(p), want[p]);
        }
        BargeWards landing = Towns.withWards(1);
        landing.addBarge(1);
        landing.setBowls(0);
        landing.board(0, 5);
        landing.pass(1);
        Check.due("hungry on the day of landing", landing.hungryDaysOf(0), 0);
        landing.pass(1);
        Check.due("hungry on the day behind it", landing.hungryDaysOf(0), 1);
    }

    private static void step1HungryIsOfToday() {
        BargeWards t = Towns.landed(Towns.places(1), 5);
        t.setBowls(0);
        t.pass(1);
        Check.due("feverOf on a hungry day", t.feverOf(0), 6);
        t.setBowls(1);
        t.pass(1);
        Check.due("feverOf on a day with a bowl", t.feverOf(0), 5);
        t.setBowls(0);
        t.pass(1);
        Check.due("feverOf on a hungry day again", t.feverOf(0), 6);
    }

    // ---- step 2

    private static void step2OnlyOfPeopleInWards() {
        BargeWards t = Towns.busy();
        t.setBowls(0);
        t.pass(3);
        int[] want = {7, 8, 0, 10, 3};
        for (int p = 0; p < want.length; p++) {
            Check.due("feverOf(" + p + ") without bowls", t.feverOf(p), want[p]);
        }
        BargeWards fed = Towns.busy();
        fed.pass(3);
        int[] wantFed = {1, 2, 0, 10, 3};
        for (int p = 0; p < wantFed.length; p++) {
            Check.due("feverOf(" + p + ") with bowls", fed.feverOf(p), wantFed[p]);
        }
        Check.due("feverOf on the day of landing", Towns.landed(Towns.places(1), 5).feverOf(0), 5);
    }

    private static void step2HungryOrOldStrawOrBoth() {
        int[] straws = {1, 5};
        for (int straw : straws) {
            for (int bowls = 0; bowls <= 1; bowls++) {
                BargeWards t = Towns.onStraw(straw, 4);
                t.setBowls(bowls);
                t.pass(1);
                boolean better = straw == 1 && bowls == 1;
                Check.due("feverOf on straw of " + straw + " with " + bowls, t.feverOf(0), better ? 3 : 5);
            }
        }
    }

    private static void step2StrawOf5DaysOrMore() {
        for (int straw = 0; straw <= 8; straw++) {
            BargeWards t = Towns.onStraw(straw, 4);
            Check.due("strawOf", t.strawOf(0), straw);
            t.pass(1);
            Check.due("feverOf on straw of " + straw, t.feverOf(0), straw < 5 ? 3 : 5);
        }
        BargeWards old = Towns.onStraw(200, 4);
        old.pass(1);
        Check.due("feverOf on straw of 200", old.feverOf(0), 5);
    }

    private static void step2StrawOfThisWard() {
        BargeWards t = Towns.withWards(1, 1, 1);
        t.addBarge(1);
        t.pass(4);
        Towns.boardAll(t, 0, 5, 5, 5);
        t.pass(1);
        t.layStraw(1);
        t.pass(1);
        Check.due("feverOf in ward 0, old", t.feverOf(0), 6);
        Check.due("feverOf in ward 1, fresh", t.feverOf(1), 4);
        Check.due("feverOf in ward 2, old", t.feverOf(2), 6);
    }

    private static void step2OneMoreAtMost10() {
        BargeWards hungry = Towns.highFevers();
        hungry.setBowls(0);
        hungry.pass(1);
        Check.due("8 and hungry", hungry.feverOf(0), 9);
        Check.due("9 and hungry", hungry.feverOf(1), 10);
        Check.due("10 and hungry", hungry.feverOf(2), 10);
        BargeWards t = Towns.withWards(8);
        t.addBarge(2);
        t.pass(3);
        Towns.boardAll(t, 0, 7, 8, 9);
        t.pass(2);
        t.pass(1);
        Check.due("8 on old straw", t.feverOf(0), 9);
        Check.due("9 on old straw", t.feverOf(1), 10);
        Check.due("10 on old straw", t.feverOf(2), 10);
    }

    /** Nobody in a ward can have 0 ahead of step 2: such a one has gone home by then. */
    private static void step2OneLessAtLeast0() {
        BargeWards t = Towns.landed(Towns.places(8), 1, 2, 3);
        t.pass(1);
        Check.due("1 and fed", t.feverOf(0), 0);
        Check.due("2 and fed", t.feverOf(1), 1);
        Check.due("3 and fed", t.feverOf(2), 2);
        t.pass(1);
        Check.due("0 a day later", t.feverOf(0), 0);
        Check.due("1 and fed, a day later", t.feverOf(1), 0);
        t.layStraw(0);
        t.pass(5);
        Check.due("0 some days later", t.feverOf(0), 0);
        BargeWards high = Towns.highFevers();
        high.pass(1);
        Check.due("8 and fed", high.feverOf(0), 7);
        Check.due("9 and fed", high.feverOf(1), 8);
        Check.due("10 and fed", high.feverOf(2), 9);
    }

    private static void step2StrawAheadOfStep4() {
        BargeWards four = Towns.onStraw(4, 7);
        four.pass(1);
        Check.due("strawOf behind the day", four.strawOf(0), 5);
        Check.due("feverOf: ahead of step 4 it was 4", four.feverOf(0), 6);
        four.pass(1);
        Check.due("feverOf: ahead of step 4 it was 5", four.feverOf(0), 7);
        BargeWards fresh = Towns.onStraw(0, 9);
        fresh.pass(5);
        Check.due("feverOf behind 5 days on fresh straw", fresh.feverOf(0), 4);
        fresh.pass(1);
        Check.due("feverOf behind 6 days on fresh straw", fresh.feverOf(0), 5);
    }

    // ---- step 3

    private static void step3DaysToGoAreOneLess() {
        for (int kept = 1; kept <= 9; kept++) {
            BargeWards t = Towns.withBarges(kept);
            for (int day = 1; day <= kept + 2; day++) {
                t.pass(1);
                Check.due("daysToGo, kept for " + kept + ", on the day " + day, t.daysToGo(0), Math.max(0, kept - day));
            }
        }
        BargeWards two = Towns.withBarges(2, 5);
        two.pass(3);
        Check.due("daysToGo at the quay stay 0", two.daysToGo(0), 0);
        Check.due("daysToGo of the other barge go on", two.daysToGo(1), 2);
    }

    /** With k days at first, fevers rise on the first k - 1 of them. */
    private static void step3StillNotAtTheQuay() {
        for (int kept = 1; kept <= 9; kept++) {
            BargeWards t = Towns.aboard(kept, 1, 1);
            t.addWard(2);
            t.pass(kept);
            Check.due("landed, kept for " + kept, t.wardOf(0), 0);
            Check.due("feverOf(0), kept for " + kept, t.feverOf(0), kept);
            Check.due("feverOf(1), kept for " + kept, t.feverOf(1), kept);
        }
        BargeWards healthy = Towns.aboard(1, 0, 5);
        healthy.pass(1);
        Check.due("with 0 days to go nobody catches it", healthy.isHome(0), true);
        BargeWards oneDay = Towns.aboard(2, 0, 5);
        oneDay.pass(1);
        Check.due("with 1 day to go somebody does", oneDay.feverOf(0), 1);
    }

    private static void step3OneMoreAtMost10() {
        BargeWards t = Towns.aboard(9, 7, 8, 9);
        t.pass(1);
        Check.due("7 and a day", t.feverOf(0), 8);
        Check.due("8 and a day", t.feverOf(1), 9);
        Check.due("9 and a day", t.feverOf(2), 10);
        t.pass(1);
        Check.due("8 and a day", t.feverOf(0), 9);
        Check.due("9 and a day", t.feverOf(1), 10);
        Check.due("10 and a day", t.feverOf(2), 10);
        t.pass(5);
        Check.due("for five more days", t.feverOf(0), 10);
        BargeWards many = Towns.aboard(9, 0, 5, 5, 5, 5);
        many.pass(1);
        Check.due("1 more, not one for each other", many.feverOf(0), 1);
    }

    private static void step3AnotherPerson() {
        for (int fever = 0; fever <= 9; fever++) {
            BargeWards alone = Towns.aboard(9, fever);
            alone.pass(8);
            Check.due("alone with " + fever, alone.feverOf(0), fever);
            BargeWards two = Towns.aboard(9, fever, 0);
            two.pass(1);
            Check.due("with one without a fever, own " + fever, two.feverOf(0), fever);
            Check.due("without a fever, with one of " + fever, two.feverOf(1), fever == 0 ? 0 : 1);
            BargeWards both = Towns.aboard(9, fever, 1);
            both.pass(1);
            Check.due("with one of 1, own " + fever, both.feverOf(0), fever + 1);
            Check.due("of 1, with one of " + fever, both.feverOf(1), fever == 0 ? 1 : 2);
        }
    }

    /** Ward 0 and barge 0 have the same number, and people elsewhere give nobody a fever. */
    private static void step3AnotherPersonOnThisBarge() {
        BargeWards t = Towns.withBarges(3, 9);
        t.addWard(1);
        t.board(0, 9);
        t.board(1, 0);
        t.pass(3);
        Check.due("in ward 0 now", t.wardOf(0), 0);
        t.board(0, 0);
        t.pass(2);
        Check.due("on barge 0, another in ward 0", t.feverOf(2), 0);
        Check.due("on barge 1, another on barge 0, then in a ward", t.feverOf(1), 0);
        t.board(1, 1);
        t.pass(1);
        Check.due("on barge 1, another on it", t.feverOf(1), 1);
        BargeWards gone = Towns.landed(Towns.places(1), 9);
        gone.setBowls(0);
        gone.pass(1);
        Check.due("in the great house", gone.isInGreatHouse(0), true);
        gone.addBarge(5);
        gone.board(1, 0);
        gone.pass(3);
        Check.due("on a barge, another in the great house", gone.feverOf(1), 0);
    }

    private static void step3AFeverOf1OrMore() {
        for (int other = 0; other <= 9; other++) {
            BargeWards t = Towns.aboard(9, 4, other);
            t.pass(1);
            Check.due("with another of " + other, t.feverOf(0), other == 0 ? 4 : 5);
        }
        BargeWards ten = Towns.aboard(9, 9, 9);
        ten.pass(1);
        ten.board(0, 0);
        ten.pass(1);
        Check.due("with two of 10", ten.feverOf(2), 1);
    }

    private static void step3AsItWasAheadOfThis() {
        for (int sick = 0; sick < 3; sick++) {
            BargeWards t = Towns.withBarges(9);
            for (int p = 0; p < 3; p++) {
                t.board(0, p == sick ? 1 : 0);
            }
            t.pass(1);
            for (int p = 0; p < 3; p++) {
                Check.due("feverOf(" + p + "), of " + sick + " sick", t.feverOf(p), 1);
            }
            t.pass(1);
            for (int p = 0; p < 3; p++) {
                Check.due("feverOf(" + p + ") a day later", t.feverOf(p), 2);
            }
        }
    }

    // ---- step 4

    private static void step4StrawIsOlderInEachWard() {
        BargeWards t = Towns.withWards(1, 2, 3, 4, 5);
        t.addBarge(1);
        t.board(0, 9);
        for (int day = 1; day <= 7; day++) {
            t.pass(1);
            for (int w = 0; w < 5; w++) {
                Check.due("strawOf(" + w + ") on the day " + day, t.strawOf(w), day);
            }
        }
        t.layStraw(3);
        t.pass(1);
        Check.due("strawOf(3), laid yesterday", t.strawOf(3), 1);
        Check.due("strawOf(4), not laid", t.strawOf(4), 8);
        t.pass(40);
        Check.due("strawOf(0) behind 40 days more", t.strawOf(0), 48);
    }

    // ---- step 5

    private static void step5WithAFeverOf0Home() {
        BargeWards t = Towns.landed(Towns.places(8), 1, 2);
        Check.due("isHome with 1", t.isHome(0), false);
        t.pass(1);
        Check.due("isHome with 0", t.isHome(0), true);
        Check.due("wardOf with 0", t.wardOf(0), -1);
        Check.due("isHome with 1", t.isHome(1), false);
        Check.due("wardOf with 1", t.wardOf(1), 0);
        t.pass(1);
        Check.due("isHome with 0", t.isHome(1), true);
    }

    private static void step5With10ToTheGreatHouse() {
        BargeWards t = Towns.landed(Towns.places(8), 7, 8, 9);
        t.setBowls(0);
        t.pass(1);
        Check.due("8: in the great house", t.isInGreatHouse(0), false);
        Check.due("8: wardOf", t.wardOf(0), 0);
        Check.due("9: in the great house", t.isInGreatHouse(1), false);
        Check.due("9: wardOf", t.wardOf(1), 0);
        Check.due("10: in the great house", t.isInGreatHouse(2), true);
        Check.due("10: wardOf", t.wardOf(2), -1);
        Check.due("10: isHome", t.isHome(2), false);
        BargeWards high = Towns.highFevers();
        high.pass(1);
        Check.due("10, fed, is 9: in the great house", high.isInGreatHouse(2), false);
        Check.due("10, fed, is 9: wardOf", high.wardOf(2), 0);
    }

    private static void step5OnlyOfPeopleInWards() {
        BargeWards t = Towns.aboard(9, 9, 9);
        t.addBarge(9);
        t.board(1, 0);
        t.addWard(8);
        t.pass(8);
        Check.due("10 on a barge: feverOf", t.feverOf(0), 10);
        Check.due("10 on a barge: in the great house", t.isInGreatHouse(0), false);
        Check.due("0 on a barge: isHome", t.isHome(2), false);
        t.pass(1);
        Check.due("10, landed behind step 5: in the great house", t.isInGreatHouse(0), false);
        Check.due("10, landed behind step 5: wardOf", t.wardOf(0), 0);
    }

    // ---- step 6

    private static void step6OnlyOfBargesAtTheQuay() {
        BargeWards t = Towns.withBarges(1, 2, 3);
        t.addWard(8);
        for (int barge = 0; barge < 3; barge++) {
            Towns.boardAll(t, barge, 0, 3);
        }
        for (int day = 1; day <= 3; day++) {
            t.pass(1);
            for (int barge = 0; barge < 3; barge++) {
                Check.due("peopleOn(" + barge + ") on the day " + day, t.peopleOn(barge), barge < day ? 0 : 2);
            }
        }
    }

    private static void step6BargesByNumbers() {
        for (int places = 0; places <= 4; places++) {
            BargeWards t = Towns.withBarges(1, 1, 1, 1);
            if (places > 0) {
                t.addWard(places);
            }
            for (int barge = 3; barge >= 0; barge--) {
                t.board(barge, 5);
            }
            t.pass(1);
            for (int barge = 0; barge < 4; barge++) {
                Check.due("peopleOn(" + barge + ") with " + places, t.peopleOn(barge), barge < places ? 0 : 1);
                Check.due("daysToGo(" + barge + ") with " + places, t.daysToGo(barge), barge < places ? 0 : 1);
            }
        }
    }

    private static void step6PeopleByNumbers() {
        for (int places = 1; places <= 4; places++) {
            BargeWards t = Towns.landed(Towns.places(places), 9, 5, 1);
            for (int p = 0; p < 3; p++) {
                Check.due("bargeOf(" + p + ") with " + places, t.bargeOf(p), p < places ? -1 : 0);
            }
        }
    }

    private static void step6WithoutAFeverHome() {
        BargeWards free = Towns.landed(Towns.places(8), 0, 1, 0);
        Check.due("0, a place is free: isHome", free.isHome(0), true);
        Check.due("1, a place is free: isHome", free.isHome(1), false);
        Check.due("1, a place is free: wardOf", free.wardOf(1), 0);
        Check.due("0, a place is free: peopleIn", free.peopleIn(0), 1);
        BargeWards none = Towns.landed(Towns.places(), 0, 1, 0);
        Check.due("0, no wards: isHome", none.isHome(2), true);
        Check.due("1, no wards: isHome", none.isHome(1), false);
        Check.due("1, no wards: bargeOf", none.bargeOf(1), 0);
        BargeWards full = Towns.landed(Towns.places(1), 5, 1, 0);
        Check.due("0, wards are full: isHome", full.isHome(2), true);
        Check.due("1, wards are full: bargeOf", full.bargeOf(1), 0);
    }

    /** Five wards of one place: the first, the last, and one more person than places. */
    private static void step6FirstWardWithAFreePlace() {
        BargeWards t = Towns.landed(Towns.places(1, 1, 1, 1, 1), 4, 4, 4, 4, 4, 4);
        for (int p = 0; p < 5; p++) {
            Check.due("wardOf(" + p + ")", t.wardOf(p), p);
        }
        Check.due("wardOf(5)", t.wardOf(5), -1);
        BargeWards u = Towns.landed(Towns.places(2, 1, 2), 4, 4, 4, 4);
        int[] want = {0, 0, 1, 2};
        for (int p = 0; p < want.length; p++) {
            Check.due("wards of 2, 1, 2: wardOf(" + p + ")", u.wardOf(p), want[p]);
        }
        u.carry(0, 2);
        Towns.boardAll(u, 0, 4, 4);
        u.pass(1);
        Check.due("into the place that was left", u.wardOf(4), 0);
        Check.due("none is left", u.bargeOf(5), 0);
    }

    private static void step6PlacesThatGotFreeInStep5() {
        BargeWards home = Towns.landed(Towns.places(1), 1);
        home.board(0, 5);
        home.pass(1);
        Check.due("the place of who goes home: wardOf", home.wardOf(1), 0);
        BargeWards stays = Towns.landed(Towns.places(1), 2);
        stays.board(0, 5);
        stays.pass(1);
        Check.due("the place of who stays: bargeOf", stays.bargeOf(1), 0);
        BargeWards great = Towns.landed(Towns.places(1), 9);
        great.setBowls(0);
        great.board(0, 5);
        great.pass(1);
        Check.due("the place of who goes to the great house: wardOf", great.wardOf(1), 0);
        Check.due("who lands is not hungry on this day", great.hungryDaysOf(1), 0);
    }

    private static void step6WithAFeverOf10IntoAWard() {
        BargeWards t = Towns.highFevers();
        for (int p = 0; p < 3; p++) {
            Check.due("feverOf(" + p + ")", t.feverOf(p), 8 + p);
            Check.due("wardOf(" + p + ")", t.wardOf(p), 0);
        }
        Check.due("peopleInGreatHouse()", t.peopleInGreatHouse(), 0);
    }

    private static void step6WithoutAPlaceStays() {
        for (int places = 1; places <= 3; places++) {
            BargeWards t = Towns.landed(Towns.places(places), 6, 6);
            Check.due("peopleIn with " + places, t.peopleIn(0), Math.min(places, 2));
            Check.due("peopleOn with " + places, t.peopleOn(0), Math.max(0, 2 - places));
        }
        BargeWards none = Towns.landed(Towns.places(), 6);
        Check.due("no wards: bargeOf", none.bargeOf(0), 0);
        Check.due("no wards: feverOf", none.feverOf(0), 6);
        none.addWard(1);
        none.pass(1);
        Check.due("a ward was added: wardOf", none.wardOf(0), 0);
    }

    private static void step6KeptAgainIfSomebodyStays() {
        BargeWards one = Towns.aboard(4, 0, 5, 0);
        one.pass(4);
        Check.due("one of three stays: daysToGo", one.daysToGo(0), 4);
        BargeWards first = Towns.withWards(1);
        first.addBarge(2);
        Towns.boardAll(first, 0, 5, 5, 0);
        first.pass(2);
        Check.due("the one in the middle stays: daysToGo", first.daysToGo(0), 2);
        BargeWards home = Towns.aboard(4, 0, 0, 0);
        home.pass(4);
        Check.due("all go home: daysToGo", home.daysToGo(0), 0);
        int[] places = {1, 2, 3};
        for (int some : places) {
            BargeWards ward = Towns.aboard(4, 1, 1);
            ward.addWard(some);
            ward.pass(4);
            Check.due("two go ashore, places for " + some + ": daysToGo", ward.daysToGo(0), some < 2 ? 4 : 0);
        }
        BargeWards empty = Towns.withBarges(4);
        empty.pass(4);
        Check.due("nobody was on it: daysToGo", empty.daysToGo(0), 0);
        empty.pass(1);
        Check.due("nobody was on it, a day later: daysToGo", empty.daysToGo(0), 0);
    }

    private static void step6ForAsManyDaysAsAtFirst() {
        for (int kept = 1; kept <= 9; kept++) {
            BargeWards t = Towns.aboard(kept, 5);
            t.pass(kept);
            Check.due("daysToGo, kept for " + kept, t.daysToGo(0), kept);
            t.addWard(1);
            for (int day = 1; day < kept; day++) {
                t.pass(1);
                Check.due("still kept, for " + kept, t.bargeOf(0), 0);
            }
            t.pass(1);
            Check.due("landed, kept for " + kept, t.wardOf(0), 0);
            Check.due("keptFor", t.keptFor(0), kept);
        }
        BargeWards thrice = Towns.aboard(3, 5);
        thrice.pass(9);
        Check.due("daysToGo, kept a third time", thrice.daysToGo(0), 3);
    }

    // ---- step 7

    private static void step7TheDayIsOneGreater() {
        BargeWards t = new BargeWards();
        for (int day = 1; day <= 3; day++) {
            t.pass(1);
            Check.due("day()", t.day(), day);
        }
        t.pass(40);
        Check.due("day()", t.day(), 43);
    }
}
