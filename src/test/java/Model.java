import java.util.ArrayList;
import java.util.List;

/**
 * The document once more, in the slowest and plainest way: it keeps what was told and goes through all of it, day by
 * day, at every call. ModelTest compares the class with it.
 */
public final class Model {
    private static final int NONE = -1;

    record Told(int kind, int what, int day) { }

    record Given(int vehicle, int plate, int day) { }

    record Rate(int its, int from, int rate) { }

    record Tested(int day, int grade, int mileage) { }

    record Sighting(int number, String signs, int place, int minute, int day) { }

    static final class Car {
        int serial;
        int built;
        int its;
        long paid;
        final List<Told> told = new ArrayList<>();
        final List<Tested> tests = new ArrayList<>();
        final boolean[] insured = new boolean[20001];
    }

    static final class Fine {
        int sighting;
        int amount;
        int made;
        final List<Integer> named = new ArrayList<>();
        final List<Integer> days = new ArrayList<>();
    }

    private int today = 0;
    private String typed = "";
    private final List<Car> cars = new ArrayList<>();
    private final List<Boolean> people = new ArrayList<>();
    private final List<Integer> looks = new ArrayList<>();
    private final List<String> barred = new ArrayList<>();
    private final List<Given> given = new ArrayList<>();
    private final List<Integer> bySeries = new ArrayList<>();
    private final List<Rate> rates = new ArrayList<>();
    private final List<Sighting> sightings = new ArrayList<>();
    private final List<Fine> fines = new ArrayList<>();

    private static void index(boolean good) {
        if (!good) {
            throw new IndexOutOfBoundsException();
        }
    }

    private static void argument(boolean good) {
        if (!good) {
            throw new IllegalArgumentException();
        }
    }

    private static void state(boolean good) {
        if (!good) {
            throw new IllegalStateException();
        }
    }

    private static boolean in(int number, int least, int most) {
        return least <= number && number <= most;
    }

    private Car car(int vehicle) {
        index(in(vehicle, 0, cars.size() - 1));
        return cars.get(vehicle);
    }

    public int type(char sign) {
        state(typed.length() < 8);
        typed += sign;
        return typed.length();
    }

    public int clear() {
        int were = typed.length();
        typed = "";
        return were;
    }

    private static int check(int serial) {
        String digits = String.format("%04d", serial);
        int sum = 0;
        for (int i = 0; i < 4; i++) {
            sum += (digits.charAt(i) - '0') * (i + 2);
        }
        return sum % 11;
    }

    private int bySerial(int serial) {
        for (Car car : cars) {
            if (car.serial == serial) {
                return cars.indexOf(car);
            }
        }
        return NONE;
    }

    public int vehicle(int serial, int built, int its) {
        argument(in(serial, 0, 9999) && in(built, 0, today) && in(its, 0, 3));
        argument(check(serial) != 10);
        state(bySerial(serial) == NONE && cars.size() < 12);
        Car car = new Car();
        car.serial = serial;
        car.built = built;
        car.its = its;
        cars.add(car);
        return cars.size() - 1;
    }

    public int stamped(int stamped) {
        argument(in(stamped, 0, 99999) && check(stamped / 10) == stamped % 10);
        return bySerial(stamped / 10);
    }

    public int person() {
        state(people.size() < 10);
        people.add(false);
        looks.add(0);
        return people.size() - 1;
    }

    private boolean isPerson(int person) {
        return in(person, 0, people.size() - 1);
    }

    public boolean protect(int person, boolean is) {
        index(isPerson(person));
        return people.set(person, is);
    }

    public int tell(int vehicle, int kind, int what, int day) {
        Car car = car(vehicle);
        index(kind != 0 && kind != 1 || isPerson(what));
        argument(in(kind, 0, 7));
        argument(kind < 2 || kind == 7 && in(what, 0, 3) || kind != 7 && what == 0);
        argument(in(day, car.built, today));
        state(car.told.size() < 30);
        car.told.add(new Told(kind, what, day));
        int later = 0;
        for (Told told : car.told) {
            later += told.day > day ? 1 : 0;
        }
        return later;
    }

    /** State, keeper, owner and class behind all events up to a day. */
    private static int standing(Car car, int upTo, int what) {
        return standings(car, upTo)[upTo][what];
    }

    /** The same of each day up to one. */
    private static int[][] standings(Car car, int upTo) {
        List<Told> inOrder = new ArrayList<>(car.told);
        inOrder.sort((a, b) -> a.day - b.day);
        int[][] all = new int[upTo + 1][];
        int[] now = {0, NONE, NONE, car.its};
        int ahead = 0;
        int next = 0;
        for (int day = 0; day <= upTo; day++) {
            for (; next < inOrder.size() && inOrder.get(next).day == day; next++) {
                ahead = now[0] < 3 ? now[0] : ahead;
                now = behind(now, ahead, inOrder.get(next));
            }
            all[day] = now;
        }
        return all;
    }

    /** Ahead of a theft, it was as told. */
    private static int[] behind(int[] was, int ahead, Told told) {
        int[] now = was.clone();
        switch (told.kind) {
            case 0: now[1] = told.what; break;
            case 1: now[2] = told.what; break;
            case 7: now[3] = told.what; break;
            case 6: now[0] = 4; break;
            case 5: now[0] = was[0] == 3 ? ahead : was[0]; break;
            case 4: now[0] = Math.max(was[0], 3); break;
            default: now[0] = was[0] >= 3 ? was[0] : told.kind - 1; break;
        }
        return now;
    }

    public int on(int vehicle, int day, int what) {
        Car car = car(vehicle);
        argument(in(day, 0, today) && in(what, 0, 3));
        return standing(car, day, what);
    }

    public int onAnew(int vehicle, int day, int what) {
        return on(vehicle, day, what);
    }

    public boolean bar(char first, char second, boolean is) {
        argument(in(first, 'A', 'Z') && in(second, 'A', 'Z'));
        String pair = "" + first + second;
        boolean was = barred.remove(pair);
        if (is) {
            barred.add(pair);
        }
        return was;
    }

    static String signs(int plate) {
        char first = (char) ('A' + plate / 2600);
        char second = (char) ('A' + plate % 2600 / 100);
        return "" + first + second + String.format("%02d", plate % 100);
    }

    private boolean isFree(int plate) {
        for (Given one : given) {
            if (one.plate == plate) {
                return false;
            }
        }
        return !barred.contains(signs(plate).substring(0, 2));
    }

    public int allot(int vehicle) {
        Car car = car(vehicle);
        state(standing(car, today, 0) != 4);
        int plate = bySeries.isEmpty() ? 0 : bySeries.get(bySeries.size() - 1) + 1;
        while (plate < 67600 && !isFree(plate)) {
            plate++;
        }
        state(plate < 67600);
        bySeries.add(plate);
        given.add(new Given(vehicle, plate, today));
        return plate;
    }

    public int wish(int vehicle) {
        Car car = car(vehicle);
        state(standing(car, today, 0) != 4);
        state(typed.matches("[A-Z][A-Z][0-9][0-9]"));
        int plate = 0;
        while (!signs(plate).equals(typed)) {
            plate++;
        }
        state(isFree(plate));
        given.add(new Given(vehicle, plate, today));
        typed = "";
        return plate;
    }

    private String plateOn(int vehicle, int day) {
        String plate = null;
        for (Given one : given) {
            if (one.vehicle == vehicle && one.day <= day) {
                plate = signs(one.plate);
            }
        }
        return plate;
    }

    public char plate(int vehicle, int day, int place) {
        car(vehicle);
        index(in(place, 0, 3));
        argument(in(day, 0, today));
        String plate = plateOn(vehicle, day);
        return plate == null ? 0 : plate.charAt(place);
    }

    public int rate(int its, int from, int rate) {
        argument(in(its, 0, 3) && in(from, 0, 20000) && in(rate, 0, 100000));
        state(rates.size() < 40);
        rates.add(new Rate(its, from, rate));
        return rates.size();
    }

    private int rateOn(int its, int day) {
        Rate latest = new Rate(its, -1, 0);
        for (Rate told : rates) {
            if (told.its == its && told.from <= day && told.from >= latest.from) {
                latest = told;
            }
        }
        return latest.rate;
    }

    public long pay(int vehicle, int amount) {
        Car car = car(vehicle);
        argument(in(amount, 1, 1000000));
        car.paid += amount;
        return owes(vehicle);
    }

    public long owes(int vehicle) {
        Car car = car(vehicle);
        int[][] by = standings(car, today);
        long tax = -car.paid;
        for (int day = 0; day <= today; day += 30) {
            if (by[day][0] == 1) {
                tax += rateOn(by[day][3], day);
            }
        }
        return tax;
    }

    public int test(int vehicle, int day, int grade, int mileage) {
        Car car = car(vehicle);
        int latest = car.tests.isEmpty() ? car.built : car.tests.get(car.tests.size() - 1).day;
        argument(in(day, latest, today) && in(grade, 0, 2) && in(mileage, 0, 10000000));
        state(car.tests.size() < 20);
        car.tests.add(new Tested(day, grade, mileage));
        return testedUntil(car);
    }

    private static int testedUntil(Car car) {
        int until = car.built + 1080;
        for (Tested test : car.tests) {
            if (test.grade < 2 && test.day + 360 > until) {
                until = test.day + 360;
            }
            if (test.grade == 2 && until > test.day) {
                until = test.day;
            }
        }
        return until;
    }

    private static int turnedBack(Car car) {
        int times = 0;
        for (int i = 1; i < car.tests.size(); i++) {
            times += car.tests.get(i).mileage < car.tests.get(i - 1).mileage ? 1 : 0;
        }
        return times;
    }

    public boolean insure(int vehicle, int until) {
        Car car = car(vehicle);
        argument(until == NONE || in(until, today, 20000));
        boolean was = car.insured[today];
        for (int day = today; day <= 20000; day++) {
            car.insured[day] = day <= until;
        }
        return was;
    }

    private int gap(Car car) {
        int[][] by = standings(car, today);
        int gap = 0;
        for (int day = 0; day <= today; day++) {
            gap += !car.insured[day] && by[day][0] == 1 ? 1 : 0;
        }
        return gap;
    }

    private int clones(int vehicle) {
        List<Sighting> own = new ArrayList<>();
        for (Sighting one : sightings) {
            if (seen(one.number) == vehicle) {
                own.add(one);
            }
        }
        own.sort((a, b) -> a.day != b.day ? a.day - b.day
                : a.minute != b.minute ? a.minute - b.minute : a.number - b.number);
        int clones = 0;
        for (int i = 1; i < own.size(); i++) {
            Sighting a = own.get(i - 1);
            Sighting b = own.get(i);
            int minutes = (b.day - a.day) * 24 * 60 + b.minute - a.minute;
            clones += minutes < 10 * Math.abs(a.place - b.place) ? 1 : 0;
        }
        return clones;
    }

    public int ofVehicle(int vehicle, int what) {
        Car car = car(vehicle);
        argument(in(what, 0, 4));
        switch (what) {
            case 0: return Integer.parseInt("" + car.serial + check(car.serial));
            case 1: return testedUntil(car);
            case 2: return turnedBack(car);
            case 3: return gap(car);
            default: return clones(vehicle);
        }
    }

    public int sight(int place, int minute) {
        argument(in(place, 0, 9) && in(minute, 0, 1439));
        state(typed.matches("[A-Z?][A-Z?][0-9?][0-9?]") && sightings.size() < 40);
        sightings.add(new Sighting(sightings.size(), typed, place, minute, today));
        typed = "";
        return sightings.size() - 1;
    }

    public int seen(int sighting) {
        index(in(sighting, 0, sightings.size() - 1));
        Sighting one = sightings.get(sighting);
        List<Integer> agree = new ArrayList<>();
        for (int i = 0; i < cars.size(); i++) {
            String plate = plateOn(i, one.day);
            if (plate != null && plate.matches(one.signs.replace('?', '.'))) {
                agree.add(i);
            }
        }
        return agree.size() == 1 ? agree.get(0) : NONE;
    }

    public int fine(int sighting, int amount) {
        int vehicle = seen(sighting);
        argument(in(amount, 1, 100000));
        state(vehicle != NONE && fines.size() < 20);
        Fine fine = new Fine();
        fine.sighting = sighting;
        fine.amount = amount;
        fine.made = today;
        fines.add(fine);
        return fines.size() - 1;
    }

    public int name(int fine, int person) {
        int was = whose(fine);
        index(isPerson(person));
        Fine one = fines.get(fine);
        int since = one.days.isEmpty() ? one.made : one.days.get(one.days.size() - 1);
        state(was != NONE && was != person && today - since <= 14 && one.named.size() < 3);
        one.named.add(person);
        one.days.add(today);
        return was;
    }

    public int whose(int fine) {
        index(in(fine, 0, fines.size() - 1));
        Fine one = fines.get(fine);
        if (!one.named.isEmpty()) {
            return one.named.get(one.named.size() - 1);
        }
        int vehicle = seen(one.sighting);
        return vehicle == NONE ? NONE : standing(cars.get(vehicle), sightings.get(one.sighting).day, 1);
    }

    public int fines(int person) {
        index(isPerson(person));
        int sum = 0;
        for (int i = 0; i < fines.size(); i++) {
            sum += whose(i) == person ? fines.get(i).amount : 0;
        }
        return sum;
    }

    public int look(int vehicle) {
        Car car = car(vehicle);
        int state = standing(car, today, 0);
        int keeper = standing(car, today, 1);
        String who = typed;
        typed = "";
        boolean sees = who.equals("police") || who.equals("insurer") && state == 1
                || who.equals("clamper") && (state == 2 || state == 0);
        if (!sees || keeper == NONE || people.get(keeper) && !who.equals("police")) {
            return NONE;
        }
        looks.set(keeper, looks.get(keeper) + 1);
        return keeper;
    }

    public int looked(int person) {
        index(isPerson(person));
        return looks.get(person);
    }

    public int pass(int days) {
        argument(in(days, 1, 400));
        state(today + days <= 20000);
        today += days;
        return today;
    }
}
