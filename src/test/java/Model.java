import java.util.ArrayList;
import java.util.List;

/**
 * The document told a second time, with lists of people in wards and barges instead of numbers in
 * rows, so that the random runs compare two programs that share nothing. It looks ahead by making
 * a new model out of the log of all changes.
 */
final class Model {
    static final class Person {
        int fever;
        int hungryDays;
        boolean hungry;
        Ward ward;
        Barge barge;
        boolean home;
        boolean greatHouse;
    }

    static final class Ward {
        int places;
        int straw;
        final List<Person> inside = new ArrayList<>();
    }

    static final class Barge {
        int kept;
        int toGo;
        final List<Person> aboard = new ArrayList<>();
    }

    private final List<int[]> log = new ArrayList<>();
    private final List<Person> people = new ArrayList<>();
    private final List<Ward> wards = new ArrayList<>();
    private final List<Barge> barges = new ArrayList<>();
    private int day = 0;
    private int bowls = 20;
    private int eaten = 0;

    /** The answer of the face's call with this number in RandomRunsTest.NAMES. */
    long answer(int call, int a, int b) {
        switch (call) {
            case 0: return addWard(a);
            case 1: return addBarge(a);
            case 2: return board(a, b);
            case 3: return setBowls(a);
            case 4: return layStraw(a);
            case 5: return carry(a, b);
            case 6: return pass(a);
            case 7: return person(a).fever;
            case 8: return wards.indexOf(person(a).ward);
            case 9: return barges.indexOf(person(a).barge);
            case 10: return person(a).home ? 1 : 0;
            case 11: return person(a).greatHouse ? 1 : 0;
            case 12: return person(a).hungryDays;
            case 13: return ward(a).places;
            case 14: return ward(a).inside.size();
            case 15: return ward(a).straw;
            case 16: return ward(a).inside.stream().mapToInt(p -> p.fever).sum();
            case 17: return barge(a).toGo;
            case 18: return barge(a).kept;
            case 19: return barge(a).aboard.size();
            case 20: return barge(a).aboard.stream().mapToInt(p -> p.fever).max().orElse(0);
            case 21: return day;
            case 22: return wards.size();
            case 23: return barges.size();
            case 24: return people.size();
            case 25: return bowls;
            case 26: return wards.stream().mapToInt(w -> w.places - w.inside.size()).sum();
            case 27: return hungryWith(bowls);
            case 28: return people.stream().filter(p -> p.home).count();
            case 29: return people.stream().filter(p -> p.greatHouse).count();
            case 30: return eaten;
            case 31: return daysUntilHome(a);
            case 32: return ahead(a, -1).answer(28, 0, 0);
            case 33: return ahead(a, -1).answer(29, 0, 0);
            case 34: return bestStraw(a);
            case 35: return bowlsNeeded();
            case 36: return Double.doubleToLongBits(meanFever());
            default: return digest();
        }
    }

    private static IllegalArgumentException argument() {
        return new IllegalArgumentException();
    }

    private Person person(int i) {
        if (i < 0 || i >= people.size()) {
            throw new IndexOutOfBoundsException();
        }
        return people.get(i);
    }

    private Ward ward(int i) {
        if (i < 0 || i >= wards.size()) {
            throw new IndexOutOfBoundsException();
        }
        return wards.get(i);
    }

    private Barge barge(int i) {
        if (i < 0 || i >= barges.size()) {
            throw new IndexOutOfBoundsException();
        }
        return barges.get(i);
    }

    private void note(int... change) {
        log.add(change);
    }

    private int addWard(int places) {
        if (places < 1 || places > 8) {
            throw argument();
        }
        if (wards.size() == 5) {
            throw new IllegalStateException();
        }
        Ward w = new Ward();
        w.places = places;
        wards.add(w);
        note(0, places, 0);
        return wards.size() - 1;
    }

    private int addBarge(int days) {
        if (days < 1 || days > 9) {
            throw argument();
        }
        if (barges.size() == 4) {
            throw new IllegalStateException();
        }
        Barge b = new Barge();
        b.kept = days;
        b.toGo = days;
        barges.add(b);
        note(1, days, 0);
        return barges.size() - 1;
    }

    private int board(int at, int fever) {
        Barge b = barge(at);
        if (fever < 0 || fever > 9) {
            throw argument();
        }
        if (people.size() == 30) {
            throw new IllegalStateException();
        }
        Person p = new Person();
        p.fever = fever;
        p.barge = b;
        people.add(p);
        b.aboard.add(p);
        if (b.toGo == 0) {
            b.toGo = b.kept;
        }
        note(2, at, fever);
        return people.size() - 1;
    }

    private int setBowls(int now) {
        if (now < 0 || now > 60) {
            throw argument();
        }
        int before = bowls;
        bowls = now;
        note(3, now, 0);
        return before;
    }

    private int layStraw(int at) {
        Ward w = ward(at);
        int before = w.straw;
        w.straw = 0;
        note(4, at, 0);
        return before;
    }

    private int carry(int who, int at) {
        Person p = person(who);
        Ward to = ward(at);
        if (p.ward == null || p.ward == to || to.inside.size() == to.places) {
            throw new IllegalStateException();
        }
        int from = wards.indexOf(p.ward);
        p.ward.inside.remove(p);
        p.ward = to;
        to.inside.add(p);
        note(5, who, at);
        return from;
    }

    private static void checkDays(int days) {
        if (days < 1 || days > 40) {
            throw argument();
        }
    }

    private int pass(int days) {
        checkDays(days);
        long before = answer(28, 0, 0);
        for (int i = 0; i < days; i++) {
            oneDay();
        }
        note(6, days, 0);
        return (int) (answer(28, 0, 0) - before);
    }

    private List<Person> byNumbers(List<Person> some) {
        List<Person> sorted = new ArrayList<>(people);
        sorted.retainAll(some);
        return sorted;
    }

    private void oneDay() {
        int left = bowls;
        for (Ward w : wards) {
            for (Person p : byNumbers(w.inside)) {
                p.hungry = left == 0;
                if (p.hungry) {
                    p.hungryDays++;
                } else {
                    left--;
                    eaten++;
                }
            }
        }
        for (Ward w : wards) {
            for (Person p : w.inside) {
                int change = p.hungry || w.straw > 4 ? 1 : -1;
                p.fever = Math.min(10, Math.max(0, p.fever + change));
            }
        }
        for (Barge b : barges) {
            if (b.toGo != 0 && --b.toGo != 0) {
                List<Person> rising = new ArrayList<>();
                for (Person p : b.aboard) {
                    if (b.aboard.stream().anyMatch(q -> q != p && q.fever >= 1)) {
                        rising.add(p);
                    }
                }
                rising.forEach(p -> p.fever = Math.min(10, p.fever + 1));
            }
        }
        wards.forEach(w -> w.straw++);
        for (Person p : people) {
            if (p.ward != null && (p.fever == 0 || p.fever == 10)) {
                p.ward.inside.remove(p);
                p.ward = null;
                p.home = p.fever == 0;
                p.greatHouse = p.fever == 10;
            }
        }
        for (Barge b : barges) {
            if (b.toGo == 0) {
                goAshore(b);
            }
        }
        day++;
    }

    private void goAshore(Barge b) {
        for (Person p : byNumbers(b.aboard)) {
            if (p.fever == 0) {
                p.home = true;
            } else {
                p.ward = wards.stream().filter(w -> w.inside.size() < w.places).findFirst().orElse(null);
                if (p.ward == null) {
                    continue;
                }
                p.ward.inside.add(p);
            }
            b.aboard.remove(p);
            p.barge = null;
        }
        if (!b.aboard.isEmpty()) {
            b.toGo = b.kept;
        }
    }

    private Model again() {
        Model m = new Model();
        for (int[] change : log) {
            m.answer(change[0], change[1], change[2]);
        }
        return m;
    }

    private Model ahead(int days, int freshStraw) {
        checkDays(days);
        Model m = again();
        if (freshStraw >= 0) {
            m.layStraw(freshStraw);
        }
        m.pass(days);
        return m;
    }

    private int daysUntilHome(int who) {
        person(who);
        Model m = again();
        for (int days = 0; days <= 60; days++) {
            if (m.people.get(who).home) {
                return days;
            }
            m.oneDay();
        }
        return -1;
    }

    private int bestStraw(int days) {
        long without = ahead(days, -1).answer(28, 0, 0);
        long[] with = new long[wards.size()];
        long most = without;
        for (int w = 0; w < with.length; w++) {
            with[w] = ahead(days, w).answer(28, 0, 0);
            most = Math.max(most, with[w]);
        }
        for (int w = 0; w < with.length; w++) {
            if (with[w] == most && most > without) {
                return w;
            }
        }
        return -1;
    }

    private int hungryWith(int some) {
        int hungry = 0;
        int left = some;
        for (Ward w : wards) {
            for (int i = 0; i < w.inside.size(); i++) {
                if (left > 0) {
                    left--;
                } else {
                    hungry++;
                }
            }
        }
        return hungry;
    }

    private int bowlsNeeded() {
        int needed = 0;
        while (hungryWith(needed) > 0) {
            needed++;
        }
        return needed;
    }

    private double meanFever() {
        return people.stream().filter(p -> p.ward != null).mapToInt(p -> p.fever).average().orElse(0.0);
    }

    private long digest() {
        List<Long> numbers = new ArrayList<>();
        addAnswers(numbers, 0, 21, 22, 23, 24, 25, 30);
        for (int w = 0; w < wards.size(); w++) {
            addAnswers(numbers, w, 13, 14, 15, 16);
        }
        for (int b = 0; b < barges.size(); b++) {
            addAnswers(numbers, b, 17, 18, 19);
        }
        for (int p = 0; p < people.size(); p++) {
            addAnswers(numbers, p, 7, 8, 9, 10, 11, 12);
        }
        long d = 1877;
        for (long x : numbers) {
            d = d * 31 + x;
        }
        return d;
    }

    private void addAnswers(List<Long> numbers, int a, int... calls) {
        for (int call : calls) {
            numbers.add(answer(call, a, 0));
        }
    }
}
