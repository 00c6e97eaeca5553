import java.util.ArrayList;
import java.util.Arrays;

/** The register of all cars of a land. README.md tells where its promises are written. */
public final class Platehall {
    public static final int NONE = -1;
    public static final int KEEPER = 0, OWNER = 1, ON = 2, OFF = 3, STOLEN = 4, FOUND = 5, SCRAPPED = 6, CLASS = 7;
    public static final int UNKNOWN = 0, ROAD = 1, GARAGE = 2, MISSING = 3, GONE = 4;

    private static final int MOST_DAYS = 20000;
    private static final int MOST_VEHICLES = 12;
    private static final int MOST_PEOPLE = 10;
    private static final int MOST_EVENTS = 30;
    private static final int MOST_RATES = 40;
    private static final int MOST_TESTS = 20;
    private static final int MOST_SIGHTINGS = 40;
    private static final int MOST_FINES = 20;
    private static final int MOST_NAMED = 3;

    private static final int CLASSES = 4;
    private static final int NO_DIGIT = 10;
    private static final int DAYS_OF_A_MONTH = 30;
    private static final int MINUTES_OF_A_DAY = 1440;
    private static final int DAYS_TO_NAME = 14;
    private static final int LETTERS = 26;
    private static final int PAIRS = LETTERS * LETTERS;
    private static final int PLATES = PAIRS * 100;
    private static final int SIGNS_OF_A_PLATE = 4;
    private static final char ANY_SIGN = '?';
    private static final int STAMPED_NUMBER = 0, TESTED_UNTIL = 1, TURNED_BACK = 2, GAP = 3, CLONES = 4;

    private int today = 0;
    private final Buffer buffer = new Buffer();
    private final Series series = new Series();
    private final ArrayList<Vehicle> vehicles = new ArrayList<Vehicle>();
    private final ArrayList<Person> people = new ArrayList<Person>();
    private final Course[] rates = new Course[CLASSES];
    private int ratesTold = 0;
    private final ArrayList<Sighting> sightings = new ArrayList<Sighting>();
    private final ArrayList<Sighting> sightingsByTime = new ArrayList<Sighting>();
    private final ArrayList<Fine> finesMade = new ArrayList<Fine>();

    public Platehall() {
        for (int its = 0; its < CLASSES; its++) {
            rates[its] = new Course();
        }
    }

    // The buffer

    public int type(char sign) throws IllegalStateException {
        if (!buffer.append(sign)) {
            throw new IllegalStateException();
        }
        return buffer.length;
    }

    public int clear() {
        return buffer.empty();
    }

    // Vehicles and people

    public int vehicle(int serial, int built, int its) throws IllegalArgumentException, IllegalStateException {
        if (!isWithin(serial, 0, 9999) || !isWithin(built, 0, today) || !isClass(its) || checkDigit(serial) == NO_DIGIT) {
            throw new IllegalArgumentException();
        }
        if (vehicleOfSerial(serial) != NONE || vehicles.size() >= MOST_VEHICLES) {
            throw new IllegalStateException();
        }
        vehicles.add(new Vehicle(serial, built, its));
        return vehicles.size() - 1;
    }

    public int stamped(int stamped) throws IllegalArgumentException {
        if (!isWithin(stamped, 0, 99999) || stampedNumber(stamped / 10) != stamped) {
            throw new IllegalArgumentException();
        }
        return vehicleOfSerial(stamped / 10);
    }

    public int person() throws IllegalStateException {
        if (people.size() >= MOST_PEOPLE) {
            throw new IllegalStateException();
        }
        people.add(new Person());
        return people.size() - 1;
    }

    public boolean protect(int person, boolean is) throws IndexOutOfBoundsException {
        Person who = personAt(person);
        boolean was = who.isProtected;
        who.isProtected = is;
        return was;
    }

    private Vehicle vehicleAt(int vehicle) {
        if (vehicle < 0 || vehicle >= vehicles.size()) {
            throw new IndexOutOfBoundsException();
        }
        return vehicles.get(vehicle);
    }

    private Person personAt(int person) {
        if (person < 0 || person >= people.size()) {
            throw new IndexOutOfBoundsException();
        }
        return people.get(person);
    }

    private int vehicleOfSerial(int serial) {
        for (int i = 0; i < vehicles.size(); i++) {
            if (vehicles.get(i).serial == serial) {
                return i;
            }
        }
        return NONE;
    }

    private static int checkDigit(int serial) {
        int sum = serial / 1000 * 2 + serial / 100 % 10 * 3 + serial / 10 % 10 * 4 + serial % 10 * 5;
        return sum % 11;
    }

    /** NONE for a serial that is never stamped, so that no number can be taken for its own. */
    private static int stampedNumber(int serial) {
        int check = checkDigit(serial);
        return check == NO_DIGIT ? NONE : serial * 10 + check;
    }

    private static boolean isWithin(int number, int least, int most) {
        return number >= least && number <= most;
    }

    private static boolean isClass(int its) {
        return isWithin(its, 0, CLASSES - 1);
    }

    // Events

    public int tell(int vehicle, int kind, int what, int day)
            throws IndexOutOfBoundsException, IllegalArgumentException, IllegalStateException {
        Vehicle told = vehicleAt(vehicle);
        if (kind == KEEPER || kind == OWNER) {
            personAt(what);
        }
        if (!isWithin(kind, KEEPER, CLASS) || !fitsKind(kind, what) || !isWithin(day, told.built, today)) {
            throw new IllegalArgumentException();
        }
        if (told.history.size() >= MOST_EVENTS) {
            throw new IllegalStateException();
        }
        return told.history.insert(new Event(kind, what, day));
    }

    public int on(int vehicle, int day, int what) throws IndexOutOfBoundsException, IllegalArgumentException {
        Vehicle asked = vehicleAt(vehicle);
        refuseStandingAsked(day, what);
        return asked.history.standingOn(day).part(what);
    }

    public int onAnew(int vehicle, int day, int what) throws IndexOutOfBoundsException, IllegalArgumentException {
        Vehicle asked = vehicleAt(vehicle);
        refuseStandingAsked(day, what);
        return asked.history.replayedTo(day).part(what);
    }

    /** A person has been looked up by then: that is another exception. */
    private static boolean fitsKind(int kind, int what) {
        if (kind == KEEPER || kind == OWNER) {
            return true;
        }
        return kind == CLASS ? isClass(what) : what == 0;
    }

    private void refuseStandingAsked(int day, int what) {
        if (!isWithin(day, 0, today) || !isWithin(what, Standing.STATE, Standing.CLASS_OF_TAX)) {
            throw new IllegalArgumentException();
        }
    }

    // Plates

    public boolean bar(char first, char second, boolean is) throws IllegalArgumentException {
        if (!isLetter(first) || !isLetter(second)) {
            throw new IllegalArgumentException();
        }
        return series.setBarred((first - 'A') * LETTERS + (second - 'A'), is);
    }

    public int allot(int vehicle) throws IndexOutOfBoundsException, IllegalStateException {
        Vehicle holder = vehicleAt(vehicle);
        int plate = series.next();
        if (isGoneToday(holder) || plate == NONE) {
            throw new IllegalStateException();
        }
        series.last = plate;
        give(plate, holder);
        return plate;
    }

    public int wish(int vehicle) throws IndexOutOfBoundsException, IllegalStateException {
        Vehicle holder = vehicleAt(vehicle);
        int plate = buffer.plateInIt();
        if (isGoneToday(holder) || plate == NONE || !series.isFree(plate)) {
            throw new IllegalStateException();
        }
        buffer.empty();
        give(plate, holder);
        return plate;
    }

    public char plate(int vehicle, int day, int place) throws IndexOutOfBoundsException, IllegalArgumentException {
        Vehicle holder = vehicleAt(vehicle);
        if (!isWithin(place, 0, SIGNS_OF_A_PLATE - 1)) {
            throw new IndexOutOfBoundsException();
        }
        if (!isWithin(day, 0, today)) {
            throw new IllegalArgumentException();
        }
        int plate = holder.plates.valueOn(day, NONE);
        return plate == NONE ? (char) 0 : signOf(plate, place);
    }

    private void give(int plate, Vehicle holder) {
        series.markGiven(plate);
        holder.plates.put(today, plate);
    }

    private boolean isGoneToday(Vehicle vehicle) {
        return vehicle.history.standingOn(today).state == GONE;
    }

    private static boolean isLetter(char sign) {
        return sign >= 'A' && sign <= 'Z';
    }

    private static boolean isDigit(char sign) {
        return sign >= '0' && sign <= '9';
    }

    private static boolean fitsPlate(char sign, int place) {
        return place < 2 ? isLetter(sign) : isDigit(sign);
    }

    private static char signOf(int plate, int place) {
        if (place == 0) {
            return (char) ('A' + plate / (100 * LETTERS));
        }
        if (place == 1) {
            return (char) ('A' + plate / 100 % LETTERS);
        }
        return (char) ('0' + (place == 2 ? plate / 10 % 10 : plate % 10));
    }

    // Taxes

    public int rate(int its, int from, int rate) throws IllegalArgumentException, IllegalStateException {
        if (!isClass(its) || !isWithin(from, 0, MOST_DAYS) || !isWithin(rate, 0, 100000)) {
            throw new IllegalArgumentException();
        }
        if (ratesTold >= MOST_RATES) {
            throw new IllegalStateException();
        }
        rates[its].put(from, rate);
        ratesTold++;
        return ratesTold;
    }

    public long pay(int vehicle, int amount) throws IndexOutOfBoundsException, IllegalArgumentException {
        Vehicle payer = vehicleAt(vehicle);
        if (!isWithin(amount, 1, 1000000)) {
            throw new IllegalArgumentException();
        }
        payer.paid += amount;
        return taxOf(payer.history) - payer.paid;
    }

    public long owes(int vehicle) throws IndexOutOfBoundsException {
        Vehicle payer = vehicleAt(vehicle);
        return taxOf(payer.history) - payer.paid;
    }

    /** Billed anew at every call: both events and rates may be told late. */
    private long taxOf(History history) {
        long tax = 0;
        for (int row = 0; row < history.size(); row++) {
            Event event = history.at(row);
            if (event.behind.state == ROAD) {
                tax += taxBetween(event.day, history.endOf(row, today), event.behind.its);
            }
        }
        return tax;
    }

    private long taxBetween(int from, int end, int its) {
        if (!isClass(its)) {
            return 0;
        }
        int month = (from + DAYS_OF_A_MONTH - 1) / DAYS_OF_A_MONTH;
        long tax = 0;
        for (int day = month * DAYS_OF_A_MONTH; day <= end; day += DAYS_OF_A_MONTH) {
            tax += rates[its].valueOn(day, 0);
        }
        return tax;
    }

    // Tests and insurance

    public int test(int vehicle, int day, int grade, int mileage)
            throws IndexOutOfBoundsException, IllegalArgumentException, IllegalStateException {
        Vehicle tested = vehicleAt(vehicle);
        if (!isWithin(day, tested.tests.latestDay, today) || !isWithin(grade, 0, Tests.DANGEROUS)
                || !isWithin(mileage, 0, 10000000)) {
            throw new IllegalArgumentException();
        }
        if (tested.tests.count >= MOST_TESTS) {
            throw new IllegalStateException();
        }
        tested.tests.take(day, grade, mileage);
        return tested.tests.testedUntil;
    }

    public boolean insure(int vehicle, int until) throws IndexOutOfBoundsException, IllegalArgumentException {
        Vehicle insured = vehicleAt(vehicle);
        if (until != NONE && !isWithin(until, today, MOST_DAYS)) {
            throw new IllegalArgumentException();
        }
        boolean was = insured.insuredUntil.valueOn(today, NONE) >= today;
        insured.insuredUntil.put(today, until);
        return was;
    }

    public int ofVehicle(int vehicle, int what) throws IndexOutOfBoundsException, IllegalArgumentException {
        Vehicle asked = vehicleAt(vehicle);
        if (!isWithin(what, STAMPED_NUMBER, CLONES)) {
            throw new IllegalArgumentException();
        }
        if (what == STAMPED_NUMBER) {
            return stampedNumber(asked.serial);
        }
        if (what == TESTED_UNTIL) {
            return asked.tests.testedUntil;
        }
        if (what == TURNED_BACK) {
            return asked.tests.turnedBack;
        }
        return what == GAP ? gapOf(asked) : clonesOf(vehicle);
    }

    private int gapOf(Vehicle vehicle) {
        History history = vehicle.history;
        int gap = 0;
        for (int row = 0; row < history.size(); row++) {
            int from = history.at(row).day;
            int end = history.endOf(row, today);
            if (history.at(row).behind.state == ROAD && from <= end) {
                gap += end - from + 1 - vehicle.insuredUntil.daysReached(from, end);
            }
        }
        return gap;
    }

    // Sightings

    public int sight(int place, int minute) throws IllegalArgumentException, IllegalStateException {
        if (!isWithin(place, 0, 9) || !isWithin(minute, 0, MINUTES_OF_A_DAY - 1)) {
            throw new IllegalArgumentException();
        }
        if (!buffer.isOfPlateSigns(true) || sightings.size() >= MOST_SIGHTINGS) {
            throw new IllegalStateException();
        }
        Sighting sighting = new Sighting(place, today, minute);
        buffer.copyTo(sighting.signs);
        buffer.empty();
        sightings.add(sighting);
        fileByTime(sighting);
        return sightings.size() - 1;
    }

    public int seen(int sighting) throws IndexOutOfBoundsException {
        return vehicleSeen(sightingAt(sighting));
    }

    private Sighting sightingAt(int sighting) {
        if (sighting < 0 || sighting >= sightings.size()) {
            throw new IndexOutOfBoundsException();
        }
        return sightings.get(sighting);
    }

    /** Behind those of the same minute: they have lower numbers. */
    private void fileByTime(Sighting sighting) {
        int row = sightingsByTime.size();
        while (row > 0 && sightingsByTime.get(row - 1).moment > sighting.moment) {
            row--;
        }
        sightingsByTime.add(row, sighting);
    }

    private int vehicleSeen(Sighting sighting) {
        int found = NONE;
        for (int i = 0; i < vehicles.size(); i++) {
            int plate = vehicles.get(i).plates.valueOn(sighting.day, NONE);
            if (plate != NONE && sighting.agreesWith(plate)) {
                if (found != NONE) {
                    return NONE;
                }
                found = i;
            }
        }
        return found;
    }

    private int clonesOf(int vehicle) {
        Sighting earlier = null;
        int clones = 0;
        for (int row = 0; row < sightingsByTime.size(); row++) {
            Sighting sighting = sightingsByTime.get(row);
            if (vehicleSeen(sighting) == vehicle) {
                if (earlier != null && sighting.isTooSoonBehind(earlier)) {
                    clones++;
                }
                earlier = sighting;
            }
        }
        return clones;
    }

    // Fines

    public int fine(int sighting, int amount)
            throws IndexOutOfBoundsException, IllegalArgumentException, IllegalStateException {
        Sighting of = sightingAt(sighting);
        if (!isWithin(amount, 1, 100000)) {
            throw new IllegalArgumentException();
        }
        if (vehicleSeen(of) == NONE || finesMade.size() >= MOST_FINES) {
            throw new IllegalStateException();
        }
        finesMade.add(new Fine(of, amount, today));
        return finesMade.size() - 1;
    }

    public int name(int fine, int person) throws IndexOutOfBoundsException, IllegalStateException {
        Fine passed = fineAt(fine);
        personAt(person);
        int was = payerOf(passed);
        if (was == NONE || was == person || today > passed.since + DAYS_TO_NAME || passed.times >= MOST_NAMED) {
            throw new IllegalStateException();
        }
        passed.passTo(person, today);
        return was;
    }

    public int whose(int fine) throws IndexOutOfBoundsException {
        return payerOf(fineAt(fine));
    }

    public int fines(int person) throws IndexOutOfBoundsException {
        personAt(person);
        int sum = 0;
        for (int i = 0; i < finesMade.size(); i++) {
            if (payerOf(finesMade.get(i)) == person) {
                sum += finesMade.get(i).amount;
            }
        }
        return sum;
    }

    private Fine fineAt(int fine) {
        if (fine < 0 || fine >= finesMade.size()) {
            throw new IndexOutOfBoundsException();
        }
        return finesMade.get(fine);
    }

    private int payerOf(Fine fine) {
        if (fine.times > 0) {
            return fine.named;
        }
        int vehicle = vehicleSeen(fine.sighting);
        if (vehicle < 0 || vehicle >= vehicles.size()) {
            return NONE;
        }
        return vehicles.get(vehicle).history.standingOn(fine.sighting.day).keeper;
    }

    // Looks

    public int look(int vehicle) throws IndexOutOfBoundsException {
        Standing standing = vehicleAt(vehicle).history.standingOn(today);
        boolean isPolice = buffer.spells("police");
        boolean isAllowed = isPolice || isAllowedByState(standing.state);
        buffer.empty();
        int keeper = standing.keeper;
        if (!isAllowed || keeper < 0 || keeper >= people.size()) {
            return NONE;
        }
        Person person = people.get(keeper);
        if (person.isProtected && !isPolice) {
            return NONE;
        }
        person.looks++;
        return keeper;
    }

    public int looked(int person) throws IndexOutOfBoundsException {
        return personAt(person).looks;
    }

    private boolean isAllowedByState(int state) {
        if (state == ROAD) {
            return buffer.spells("insurer");
        }
        return (state == GARAGE || state == UNKNOWN) && buffer.spells("clamper");
    }

    // Days

    public int pass(int days) throws IllegalArgumentException, IllegalStateException {
        if (!isWithin(days, 1, 400)) {
            throw new IllegalArgumentException();
        }
        if (today + days > MOST_DAYS) {
            throw new IllegalStateException();
        }
        today += days;
        return today;
    }

    /** The signs that were typed and not yet taken. */
    private static final class Buffer {
        private static final int MOST_SIGNS = 8;
        final char[] signs = new char[MOST_SIGNS];
        int length = 0;

        boolean append(char sign) {
            if (length < 0 || length >= signs.length) {
                return false;
            }
            signs[length] = sign;
            length++;
            return true;
        }

        int empty() {
            int were = length;
            length = 0;
            return were;
        }

        boolean isOfPlateSigns(boolean mayBeDoubtful) {
            if (length != SIGNS_OF_A_PLATE) {
                return false;
            }
            for (int place = 0; place < SIGNS_OF_A_PLATE; place++) {
                boolean isDoubtful = mayBeDoubtful && signs[place] == ANY_SIGN;
                if (!isDoubtful && !fitsPlate(signs[place], place)) {
                    return false;
                }
            }
            return true;
        }

        int plateInIt() {
            if (!isOfPlateSigns(false)) {
                return NONE;
            }
            int letters = (signs[0] - 'A') * LETTERS + (signs[1] - 'A');
            return letters * 100 + (signs[2] - '0') * 10 + (signs[3] - '0');
        }

        boolean spells(String word) {
            if (word.length() != length) {
                return false;
            }
            for (int i = 0; i < length && i < signs.length; i++) {
                if (word.charAt(i) != signs[i]) {
                    return false;
                }
            }
            return true;
        }

        void copyTo(char[] taken) {
            for (int i = 0; i < taken.length && i < signs.length; i++) {
                taken[i] = signs[i];
            }
        }
    }

    private static final class Person {
        boolean isProtected = false;
        int looks = 0;
    }

    private static final class Vehicle {
        final int serial;
        final int built;
        final History history;
        final Tests tests;
        final Course plates = new Course();
        final Course insuredUntil = new Course();
        long paid = 0;

        Vehicle(int serial, int built, int its) {
            this.serial = serial;
            this.built = built;
            history = new History(its);
            tests = new Tests(built);
        }
    }

    /** What a vehicle is behind some of its events. */
    private static final class Standing {
        static final int STATE = 0, KEPT_BY = 1, OWNED_BY = 2, CLASS_OF_TAX = 3;
        int state = UNKNOWN;
        int stateAheadOfTheft = UNKNOWN;
        int keeper = NONE;
        int owner = NONE;
        int its;

        Standing(int its) {
            this.its = its;
        }

        void copyFrom(Standing other) {
            state = other.state;
            stateAheadOfTheft = other.stateAheadOfTheft;
            keeper = other.keeper;
            owner = other.owner;
            its = other.its;
        }

        void follow(Event event) {
            if (event.kind == KEEPER) {
                keeper = event.what;
            } else if (event.kind == OWNER) {
                owner = event.what;
            } else if (event.kind == CLASS) {
                its = event.what;
            } else if (state != GONE) {
                changeState(event.kind);
            }
        }

        private void changeState(int kind) {
            if (kind == SCRAPPED) {
                state = GONE;
            } else if (state == MISSING) {
                state = kind == FOUND ? stateAheadOfTheft : MISSING;
            } else if (kind == STOLEN) {
                stateAheadOfTheft = state;
                state = MISSING;
            } else if (kind == ON) {
                state = ROAD;
            } else if (kind == OFF) {
                state = GARAGE;
            }
        }

        int part(int what) {
            if (what == STATE) {
                return state;
            }
            if (what == KEPT_BY) {
                return keeper;
            }
            return what == OWNED_BY ? owner : its;
        }
    }

    private static final class Event {
        final int kind;
        final int what;
        final int day;
        // written anew from the event ahead, whenever one is put in ahead of this
        final Standing behind = new Standing(0);

        Event(int kind, int what, int day) {
            this.kind = kind;
            this.what = what;
            this.day = day;
        }
    }

    /** The events of a vehicle by days, those of one day as they were told. */
    private static final class History {
        private final int itsAtFirst;
        private final Standing atFirst;
        private final ArrayList<Event> events = new ArrayList<Event>();

        History(int its) {
            itsAtFirst = its;
            atFirst = new Standing(its);
        }

        int size() {
            return events.size();
        }

        Event at(int row) {
            return events.get(row);
        }

        int insert(Event event) {
            int row = events.size();
            while (row > 0 && events.get(row - 1).day > event.day) {
                row--;
            }
            events.add(row, event);
            followFrom(row);
            return events.size() - 1 - row;
        }

        private void followFrom(int first) {
            Standing ahead = first > 0 ? events.get(first - 1).behind : atFirst;
            for (int row = first; row < events.size(); row++) {
                Event event = events.get(row);
                event.behind.copyFrom(ahead);
                event.behind.follow(event);
                ahead = event.behind;
            }
        }

        Standing standingOn(int day) {
            for (int row = events.size() - 1; row >= 0; row--) {
                if (events.get(row).day <= day) {
                    return events.get(row).behind;
                }
            }
            return atFirst;
        }

        Standing replayedTo(int day) {
            Standing replayed = new Standing(itsAtFirst);
            for (int row = 0; row < events.size() && events.get(row).day <= day; row++) {
                replayed.follow(events.get(row));
            }
            return replayed;
        }

        /** The last day on which nothing has come behind the event; ahead of its day, if another one is of it. */
        int endOf(int row, int today) {
            return row + 1 < events.size() ? events.get(row + 1).day - 1 : today;
        }
    }

    /** Which plates may be allotted. */
    private static final class Series {
        private static final int BITS = 64;
        private final boolean[] barred = new boolean[PAIRS];
        // one bit for a plate, as a whole element for each would fill the room
        private final long[] given = new long[PLATES / BITS + 1];
        int last = NONE;

        boolean setBarred(int pair, boolean is) {
            if (pair < 0 || pair >= barred.length) {
                return false;
            }
            boolean was = barred[pair];
            barred[pair] = is;
            return was;
        }

        boolean isFree(int plate) {
            if (plate < 0 || plate >= PLATES) {
                return false;
            }
            return !barred[plate / 100] && (given[plate / BITS] >>> plate % BITS & 1L) == 0;
        }

        void markGiven(int plate) {
            if (plate >= 0 && plate < PLATES) {
                given[plate / BITS] |= 1L << plate % BITS;
            }
        }

        int next() {
            for (int plate = last + 1; plate < PLATES; plate++) {
                if (isFree(plate)) {
                    return plate;
                }
            }
            return NONE;
        }
    }

    /** Values by days: each holds from its day on to the next one; of one day that told last. */
    private static final class Course {
        private int[] froms = new int[4];
        private int[] values = new int[4];
        private int count = 0;

        void put(int from, int value) {
            int row = rowOn(from);
            if (row < 0 || froms[row] != from) {
                row++;
                makeRoomAt(row);
                froms[row] = from;
            }
            values[row] = value;
        }

        int valueOn(int day, int without) {
            int row = rowOn(day);
            return row < 0 ? without : values[row];
        }

        /** How many of these days are not behind the value that holds on them, itself a day. */
        int daysReached(int from, int end) {
            int days = 0;
            for (int row = 0; row < count; row++) {
                int last = Math.min(values[row], row + 1 < count ? froms[row + 1] - 1 : end);
                days += Math.max(0, Math.min(last, end) - Math.max(froms[row], from) + 1);
            }
            return days;
        }

        /** The row that holds on a day; NONE ahead of the first one. */
        private int rowOn(int day) {
            for (int row = count - 1; row >= 0; row--) {
                if (froms[row] <= day) {
                    return row;
                }
            }
            return NONE;
        }

        private void makeRoomAt(int row) {
            if (count >= froms.length) {
                froms = Arrays.copyOf(froms, count * 2);
                values = Arrays.copyOf(values, count * 2);
            }
            for (int i = count; i > row; i--) {
                froms[i] = froms[i - 1];
                values[i] = values[i - 1];
            }
            count++;
        }
    }

    /** The tests of a vehicle, which are told in their order: what they come to is kept, not they. */
    private static final class Tests {
        static final int DANGEROUS = 2;
        private static final int DAYS_WHEN_NEW = 1080;
        private static final int DAYS_BEHIND_A_TEST = 360;
        int count = 0;
        int latestDay;
        int latestMileage = 0;
        int testedUntil;
        int turnedBack = 0;

        Tests(int built) {
            latestDay = built;
            testedUntil = built + DAYS_WHEN_NEW;
        }

        void take(int day, int grade, int mileage) {
            if (mileage < latestMileage) {
                turnedBack++;
            }
            if (grade == DANGEROUS) {
                testedUntil = Math.min(testedUntil, day);
            } else {
                testedUntil = Math.max(testedUntil, day + DAYS_BEHIND_A_TEST);
            }
            latestMileage = mileage;
            latestDay = day;
            count++;
        }
    }

    private static final class Sighting {
        final char[] signs = new char[SIGNS_OF_A_PLATE];
        final int place;
        final int day;
        final int moment;

        Sighting(int place, int day, int minute) {
            this.place = place;
            this.day = day;
            moment = day * MINUTES_OF_A_DAY + minute;
        }

        boolean agreesWith(int plate) {
            for (int i = 0; i < signs.length; i++) {
                if (signs[i] != ANY_SIGN && signs[i] != signOf(plate, i)) {
                    return false;
                }
            }
            return true;
        }

        boolean isTooSoonBehind(Sighting earlier) {
            return moment - earlier.moment < 10 * Math.abs(place - earlier.place);
        }
    }

    private static final class Fine {
        final Sighting sighting;
        final int amount;
        int named = NONE;
        int times = 0;
        // the day on which it was made, or somebody was named last
        int since;

        Fine(Sighting sighting, int amount, int made) {
            this.sighting = sighting;
            this.amount = amount;
            since = made;
        }

        void passTo(int person, int today) {
            named = person;
            times++;
            since = today;
        }
    }
}
