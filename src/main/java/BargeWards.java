/** Wards and barges of an old town. */
public final class BargeWards {
    private static final int MOST_WARDS = 5;
    private static final int MOST_PLACES = 8;
    private static final int MOST_BARGES = 4;
    private static final int MOST_DAYS_KEPT = 9;
    private static final int MOST_PEOPLE = 30;
    private static final int MOST_BOWLS = 60;
    private static final int BOWLS_AT_FIRST = 20;
    private static final int MOST_FEVER = 10;
    private static final int MOST_FEVER_ABOARD = 9;
    private static final int DAYS_OF_OLD_STRAW = 5;
    private static final int MOST_DAYS_AT_ONCE = 40;
    private static final int MOST_DAYS_UNTIL_HOME = 60;
    private static final long DIGEST_START = 1877L;
    private static final long DIGEST_FACTOR = 31L;

    private static final int NONE = -1;

    private static final int ON_BARGE = 0;
    private static final int IN_WARD = 1;
    private static final int AT_HOME = 2;
    private static final int IN_GREAT_HOUSE = 3;

    private final Town town;
    /** A second town, made once, in which the questions about coming days are played through. */
    private final Town trial;

    public BargeWards() {
        town = new Town();
        trial = new Town();
    }

    // ---- the town

    public int addWard(int places) throws IllegalArgumentException, IllegalStateException {
        if (places < 1 || places > MOST_PLACES) {
            throw new IllegalArgumentException("a ward has 1 to 8 places");
        }
        if (town.wards >= MOST_WARDS) {
            throw new IllegalStateException("there are 5 wards");
        }
        return town.openWard(places);
    }

    public int addBarge(int days) throws IllegalArgumentException, IllegalStateException {
        if (days < 1 || days > MOST_DAYS_KEPT) {
            throw new IllegalArgumentException("a barge is kept for 1 to 9 days");
        }
        if (town.barges >= MOST_BARGES) {
            throw new IllegalStateException("there are 4 barges");
        }
        return town.openBarge(days);
    }

    public int board(int barge, int fever)
            throws IndexOutOfBoundsException, IllegalArgumentException, IllegalStateException {
        checkBarge(barge);
        if (fever < 0 || fever > MOST_FEVER_ABOARD) {
            throw new IllegalArgumentException("who comes aboard has a fever of 0 to 9");
        }
        if (town.people >= MOST_PEOPLE) {
            throw new IllegalStateException("there are 30 people");
        }
        return town.takeAboard(barge, fever);
    }

    public int setBowls(int bowls) throws IllegalArgumentException {
        if (bowls < 0 || bowls > MOST_BOWLS) {
            throw new IllegalArgumentException("the kitchen has 0 to 60 bowls");
        }
        int before = town.bowls;
        town.bowls = bowls;
        return before;
    }

    public int layStraw(int ward) throws IndexOutOfBoundsException {
        checkWard(ward);
        int before = town.straw[ward];
        town.straw[ward] = 0;
        return before;
    }

    public int carry(int person, int ward) throws IndexOutOfBoundsException, IllegalStateException {
        checkPerson(person);
        checkWard(ward);
        int from = town.numberOf(person, IN_WARD);
        if (from == NONE) {
            throw new IllegalStateException("this person is in no ward");
        }
        if (from == ward) {
            throw new IllegalStateException("this person is in this ward");
        }
        if (town.freeIn(ward) == 0) {
            throw new IllegalStateException("this ward has no free place");
        }
        town.move(person, IN_WARD, ward);
        return from;
    }

    public int pass(int days) throws IllegalArgumentException {
        checkDays(days);
        int before = town.count(AT_HOME);
        town.liveDays(days);
        return town.count(AT_HOME) - before;
    }

    // ---- people

    public int feverOf(int person) throws IndexOutOfBoundsException {
        checkPerson(person);
        return town.fever[person];
    }

    public int wardOf(int person) throws IndexOutOfBoundsException {
        checkPerson(person);
        return town.numberOf(person, IN_WARD);
    }

    public int bargeOf(int person) throws IndexOutOfBoundsException {
        checkPerson(person);
        return town.numberOf(person, ON_BARGE);
    }

    public boolean isHome(int person) throws IndexOutOfBoundsException {
        checkPerson(person);
        return town.where[person] == AT_HOME;
    }

    public boolean isInGreatHouse(int person) throws IndexOutOfBoundsException {
        checkPerson(person);
        return town.where[person] == IN_GREAT_HOUSE;
    }

    public int hungryDaysOf(int person) throws IndexOutOfBoundsException {
        checkPerson(person);
        return town.hungryDays[person];
    }

    // ---- wards and barges

    public int placesOf(int ward) throws IndexOutOfBoundsException {
        checkWard(ward);
        return town.places[ward];
    }

    public int peopleIn(int ward) throws IndexOutOfBoundsException {
        checkWard(ward);
        return town.countAt(IN_WARD, ward);
    }

    public int strawOf(int ward) throws IndexOutOfBoundsException {
        checkWard(ward);
        return town.straw[ward];
    }

    public int feversIn(int ward) throws IndexOutOfBoundsException {
        checkWard(ward);
        return town.feversInWard(ward);
    }

    public int daysToGo(int barge) throws IndexOutOfBoundsException {
        checkBarge(barge);
        return town.toGo[barge];
    }

    public int keptFor(int barge) throws IndexOutOfBoundsException {
        checkBarge(barge);
        return town.kept[barge];
    }

    public int peopleOn(int barge) throws IndexOutOfBoundsException {
        checkBarge(barge);
        return town.countAt(ON_BARGE, barge);
    }

    public int highestFeverOn(int barge) throws IndexOutOfBoundsException {
        checkBarge(barge);
        return town.highestFeverAboard(barge);
    }

    // ---- the town: what there is

    public int day() {
        return town.day;
    }

    public int wards() {
        return town.wards;
    }

    public int barges() {
        return town.barges;
    }

    public int people() {
        return town.people;
    }

    public int bowls() {
        return town.bowls;
    }

    public int freePlaces() {
        int free = 0;
        for (int ward = 0; ward < town.wards; ward++) {
            free += town.freeIn(ward);
        }
        return free;
    }

    public int bowlsShort() {
        return Math.max(0, town.count(IN_WARD) - town.bowls);
    }

    public int peopleHome() {
        return town.count(AT_HOME);
    }

    public int peopleInGreatHouse() {
        return town.count(IN_GREAT_HOUSE);
    }

    public int bowlsEaten() {
        return town.bowlsEaten;
    }

    // ---- what would be

    public int daysUntilHome(int person) throws IndexOutOfBoundsException {
        checkPerson(person);
        trial.copyFrom(town);
        for (int days = 0; days <= MOST_DAYS_UNTIL_HOME; days++) {
            if (trial.where[person] == AT_HOME) {
                return days;
            }
            trial.liveDays(1);
        }
        return NONE;
    }

    public int homeAfter(int days) throws IllegalArgumentException {
        checkDays(days);
        return countBehind(days, AT_HOME);
    }

    public int greatHouseAfter(int days) throws IllegalArgumentException {
        checkDays(days);
        return countBehind(days, IN_GREAT_HOUSE);
    }

    public int bestStraw(int days) throws IllegalArgumentException {
        checkDays(days);
        int most = countBehind(days, AT_HOME);
        int best = NONE;
        for (int ward = 0; ward < town.wards; ward++) {
            int home = homeWithFreshStraw(ward, days);
            if (home > most) {
                most = home;
                best = ward;
            }
        }
        return best;
    }

    public int bowlsNeeded() {
        return town.count(IN_WARD);
    }

    public double meanFever() {
        int inWards = town.count(IN_WARD);
        if (inWards == 0) {
            return 0.0;
        }
        int fevers = 0;
        for (int ward = 0; ward < town.wards; ward++) {
            fevers += town.feversInWard(ward);
        }
        return (double) fevers / (double) inWards;
    }

    public long digest() {
        long d = DIGEST_START;
        d = digestWith(d, town.day);
        d = digestWith(d, town.wards);
        d = digestWith(d, town.barges);
        d = digestWith(d, town.people);
        d = digestWith(d, town.bowls);
        d = digestWith(d, town.bowlsEaten);
        d = digestWithWards(d);
        d = digestWithBarges(d);
        return digestWithPeople(d);
    }

    private long digestWithWards(long start) {
        long d = start;
        for (int ward = 0; ward < town.wards; ward++) {
            d = digestWith(d, town.places[ward]);
            d = digestWith(d, town.countAt(IN_WARD, ward));
            d = digestWith(d, town.straw[ward]);
            d = digestWith(d, town.feversInWard(ward));
        }
        return d;
    }

    private long digestWithBarges(long start) {
        long d = start;
        for (int barge = 0; barge < town.barges; barge++) {
            d = digestWith(d, town.toGo[barge]);
            d = digestWith(d, town.kept[barge]);
            d = digestWith(d, town.countAt(ON_BARGE, barge));
        }
        return d;
    }

    private long digestWithPeople(long start) {
        long d = start;
        for (int person = 0; person < town.people; person++) {
            d = digestWith(d, town.fever[person]);
            d = digestWith(d, town.numberOf(person, IN_WARD));
            d = digestWith(d, town.numberOf(person, ON_BARGE));
            d = digestWith(d, town.where[person] == AT_HOME ? 1 : 0);
            d = digestWith(d, town.where[person] == IN_GREAT_HOUSE ? 1 : 0);
            d = digestWith(d, town.hungryDays[person]);
        }
        return d;
    }

    private static long digestWith(long d, int x) {
        return d * DIGEST_FACTOR + x;
    }

    private int countBehind(int days, int place) {
        trial.copyFrom(town);
        trial.liveDays(days);
        return trial.count(place);
    }

    private int homeWithFreshStraw(int ward, int days) {
        trial.copyFrom(town);
        trial.straw[ward] = 0;
        trial.liveDays(days);
        return trial.count(AT_HOME);
    }

    private void checkWard(int ward) {
        if (ward < 0 || ward >= town.wards) {
            throw new IndexOutOfBoundsException("no such ward");
        }
    }

    private void checkBarge(int barge) {
        if (barge < 0 || barge >= town.barges) {
            throw new IndexOutOfBoundsException("no such barge");
        }
    }

    private void checkPerson(int person) {
        if (person < 0 || person >= town.people) {
            throw new IndexOutOfBoundsException("no such person");
        }
    }

    private static void checkDays(int days) {
        if (days < 1 || days > MOST_DAYS_AT_ONCE) {
            throw new IllegalArgumentException("days are 1 to 40");
        }
    }

    /** All that changes from day to day; whoever calls has looked at the numbers before. */
    private static final class Town {
        int day;
        int bowls;
        int bowlsEaten;

        int wards;
        final int[] places;
        final int[] straw;

        int barges;
        final int[] kept;
        final int[] toGo;

        int people;
        final int[] fever;
        /** ON_BARGE, IN_WARD, AT_HOME or IN_GREAT_HOUSE. */
        final int[] where;
        /** The number of the barge or ward; NONE at home and in the great house. */
        final int[] number;
        final int[] hungryDays;
        /** These two are set anew each day ahead of their use, so that no copy needs them. */
        final boolean[] hungryToday;
        final int[] freeToday;

        Town() {
            bowls = BOWLS_AT_FIRST;
            places = new int[MOST_WARDS];
            straw = new int[MOST_WARDS];
            kept = new int[MOST_BARGES];
            toGo = new int[MOST_BARGES];
            fever = new int[MOST_PEOPLE];
            where = new int[MOST_PEOPLE];
            number = new int[MOST_PEOPLE];
            hungryDays = new int[MOST_PEOPLE];
            hungryToday = new boolean[MOST_PEOPLE];
            freeToday = new int[MOST_WARDS];
        }

        void copyFrom(Town other) {
            day = other.day;
            bowls = other.bowls;
            bowlsEaten = other.bowlsEaten;
            wards = other.wards;
            barges = other.barges;
            people = other.people;
            System.arraycopy(other.places, 0, places, 0, MOST_WARDS);
            System.arraycopy(other.straw, 0, straw, 0, MOST_WARDS);
            System.arraycopy(other.kept, 0, kept, 0, MOST_BARGES);
            System.arraycopy(other.toGo, 0, toGo, 0, MOST_BARGES);
            System.arraycopy(other.fever, 0, fever, 0, MOST_PEOPLE);
            System.arraycopy(other.where, 0, where, 0, MOST_PEOPLE);
            System.arraycopy(other.number, 0, number, 0, MOST_PEOPLE);
            System.arraycopy(other.hungryDays, 0, hungryDays, 0, MOST_PEOPLE);
        }

        int openWard(int newPlaces) {
            int ward = wards;
            places[ward] = newPlaces;
            wards++;
            return ward;
        }

        int openBarge(int days) {
            int barge = barges;
            kept[barge] = days;
            toGo[barge] = days;
            barges++;
            return barge;
        }

        int takeAboard(int barge, int newFever) {
            int person = people;
            fever[person] = newFever;
            move(person, ON_BARGE, barge);
            people++;
            if (toGo[barge] == 0) {
                toGo[barge] = kept[barge];
            }
            return person;
        }

        void move(int person, int newWhere, int newNumber) {
            where[person] = newWhere;
            number[person] = newNumber;
        }

        boolean isAt(int person, int place, int placeNumber) {
            return where[person] == place && number[person] == placeNumber;
        }

        int numberOf(int person, int place) {
            return where[person] == place ? number[person] : NONE;
        }

        int count(int place) {
            int found = 0;
            for (int person = 0; person < people; person++) {
                if (where[person] == place) {
                    found++;
                }
            }
            return found;
        }

        int countAt(int place, int placeNumber) {
            int found = 0;
            for (int person = 0; person < people; person++) {
                if (isAt(person, place, placeNumber)) {
                    found++;
                }
            }
            return found;
        }

        int freeIn(int ward) {
            return places[ward] - countAt(IN_WARD, ward);
        }

        int feversInWard(int ward) {
            int fevers = 0;
            for (int person = 0; person < people; person++) {
                if (isAt(person, IN_WARD, ward)) {
                    fevers += fever[person];
                }
            }
            return fevers;
        }

        int highestFeverAboard(int barge) {
            int highest = 0;
            for (int person = 0; person < people; person++) {
                if (isAt(person, ON_BARGE, barge)) {
                    highest = Math.max(highest, fever[person]);
                }
            }
            return highest;
        }

        /** The order of the steps is the document's: each one sees what the earlier ones left. */
        void liveDays(int days) {
            for (int lived = 0; lived < days; lived++) {
                giveBowls();
                changeFeversInWards();
                bringBargesNearer();
                ageStraw();
                leaveWards();
                landBarges();
                day++;
            }
        }

        private void giveBowls() {
            int left = bowls;
            for (int ward = 0; ward < wards; ward++) {
                for (int person = 0; person < people; person++) {
                    if (!isAt(person, IN_WARD, ward)) {
                        continue;
                    }
                    hungryToday[person] = left == 0;
                    if (left == 0) {
                        hungryDays[person]++;
                    } else {
                        left--;
                    }
                }
            }
            bowlsEaten += bowls - left;
        }

        private void changeFeversInWards() {
            for (int ward = 0; ward < wards; ward++) {
                boolean oldStraw = straw[ward] >= DAYS_OF_OLD_STRAW;
                for (int person = 0; person < people; person++) {
                    if (!isAt(person, IN_WARD, ward)) {
                        continue;
                    }
                    if (oldStraw || hungryToday[person]) {
                        raiseFever(person);
                    } else {
                        fever[person] = Math.max(0, fever[person] - 1);
                    }
                }
            }
        }

        private void raiseFever(int person) {
            fever[person] = Math.min(MOST_FEVER, fever[person] + 1);
        }

        private void bringBargesNearer() {
            for (int barge = 0; barge < barges; barge++) {
                if (toGo[barge] > 0) {
                    toGo[barge]--;
                    if (toGo[barge] > 0) {
                        spreadFever(barge);
                    }
                }
            }
        }

        private void spreadFever(int barge) {
            // Counted ahead of any rise, or who catches a fever now would pass it on at once.
            int feverish = countFeverish(barge);
            for (int person = 0; person < people; person++) {
                if (!isAt(person, ON_BARGE, barge)) {
                    continue;
                }
                int others = fever[person] > 0 ? feverish - 1 : feverish;
                if (others > 0) {
                    raiseFever(person);
                }
            }
        }

        private int countFeverish(int barge) {
            int feverish = 0;
            for (int person = 0; person < people; person++) {
                if (isAt(person, ON_BARGE, barge) && fever[person] > 0) {
                    feverish++;
                }
            }
            return feverish;
        }

        private void ageStraw() {
            for (int ward = 0; ward < wards; ward++) {
                straw[ward]++;
            }
        }

        private void leaveWards() {
            for (int person = 0; person < people; person++) {
                if (where[person] != IN_WARD) {
                    continue;
                }
                if (fever[person] == 0) {
                    move(person, AT_HOME, NONE);
                } else if (fever[person] == MOST_FEVER) {
                    move(person, IN_GREAT_HOUSE, NONE);
                }
            }
        }

        private void landBarges() {
            for (int ward = 0; ward < wards; ward++) {
                freeToday[ward] = freeIn(ward);
            }
            for (int barge = 0; barge < barges; barge++) {
                if (toGo[barge] == 0 && !landAll(barge)) {
                    toGo[barge] = kept[barge];
                }
            }
        }

        /** Returns whether nobody stays on the barge. */
        private boolean landAll(int barge) {
            boolean allLanded = true;
            for (int person = 0; person < people; person++) {
                if (!isAt(person, ON_BARGE, barge)) {
                    continue;
                }
                if (fever[person] == 0) {
                    move(person, AT_HOME, NONE);
                    continue;
                }
                int ward = takeFirstFreePlace();
                if (ward == NONE) {
                    allLanded = false;
                } else {
                    move(person, IN_WARD, ward);
                }
            }
            return allLanded;
        }

        /** Returns the ward of this place, or NONE. */
        private int takeFirstFreePlace() {
            for (int ward = 0; ward < wards; ward++) {
                if (freeToday[ward] > 0) {
                    freeToday[ward]--;
                    return ward;
                }
            }
            return NONE;
        }
    }
}
