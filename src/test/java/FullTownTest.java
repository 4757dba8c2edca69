/** A town as full as it can be: nothing runs over the last ward, barge or person. */
public final class FullTownTest {
    private FullTownTest() {
    }

    public static void main(String[] args) {
        BargeWards t = fullTown(1);
        Check.due("24: wards()", t.wards(), 5);
        Check.due("25: barges()", t.barges(), 4);
        Check.due("26: people()", t.people(), 30);
        Check.due("28: freePlaces()", t.freePlaces(), 5);
        Check.due("21: peopleOn(3)", t.peopleOn(3), 7);
        Check.due("22: highestFeverOn(3)", t.highestFeverOn(3), 4);
        t.pass(1);
        Check.due("16: peopleIn(4)", t.peopleIn(4), 1);
        Check.due("10: wardOf(16) from barge 0", t.wardOf(16), 4);
        Check.due("18: feversIn(4)", t.feversIn(4), 4);
        Check.due("21: peopleOn(3)", t.peopleOn(3), 7);
        Check.due("19: daysToGo(3), kept again", t.daysToGo(3), 1);
        Check.due("28: freePlaces()", t.freePlaces(), 0);
        Check.due("38: meanFever() is 4 for all", t.meanFever() == 4.0, true);
        Check.due("37: bowlsNeeded()", t.bowlsNeeded(), 5);
        // The five get home on day 5, five more land on straw that is old by then.
        Check.due("33: daysUntilHome(0)", t.daysUntilHome(0), 4);
        Check.due("33: daysUntilHome(29)", t.daysUntilHome(29), -1);
        Check.due("34: homeAfter(40)", t.homeAfter(40), 5);
        Check.due("35: greatHouseAfter(40)", t.greatHouseAfter(40), 25);
        Check.due("36: bestStraw(40)", t.bestStraw(40), -1);
        Check.due("8: pass(40)", t.pass(40), 5);
        Check.due("31: peopleInGreatHouse()", t.peopleInGreatHouse(), 25);
        manyDays(t);
        fullBarges();
        Check.finish("FullTownTest");
    }

    /** Five wards of one place, four barges, thirty people with a fever of 4. */
    private static BargeWards fullTown(int kept) {
        BargeWards t = new BargeWards();
        for (int i = 0; i < 5; i++) {
            t.addWard(1);
        }
        for (int i = 0; i < 4; i++) {
            t.addBarge(kept);
        }
        for (int i = 0; i < 30; i++) {
            t.board(i % 4, 4);
        }
        return t;
    }

    private static void fullBarges() {
        BargeWards t = fullTown(9);
        t.pass(6);
        for (int i = 0; i < 30; i++) {
            Check.due("9: feverOf(" + i + ") on a full barge", t.feverOf(i), 10);
        }
        // Barges come to the quay on the days 9, 18, 27, 36 and 45; five land, and are hopeless.
        Check.due("35: greatHouseAfter(39)", t.greatHouseAfter(39), 20);
        Check.due("35: greatHouseAfter(40)", t.greatHouseAfter(40), 25);
    }

    /** As many days as 512 calls can let go by. */
    private static void manyDays(BargeWards t) {
        int before = t.day();
        for (int i = 0; i < 400; i++) {
            t.pass(40);
        }
        Check.due("23: day()", t.day(), before + 16000);
        Check.due("17: strawOf(4)", t.strawOf(4), before + 16000);
    }
}
