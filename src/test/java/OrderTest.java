import java.util.Arrays;
import java.util.List;

/**
 * Which exception a call throws, for every combination of arguments that are just inside their bounds, just outside
 * and far away, in objects that have room and in objects that have none.
 */
public final class OrderTest {
    private static final int LEAST = Integer.MIN_VALUE, MOST = Integer.MAX_VALUE;
    private static final int TODAY = 20, BUILT = 10;
    private static final int SIGHTED = 0, OF_SEVERAL = 1, OF_NOBODY = 2;
    private static final List<Integer> LETTERS = Arrays.asList((int) '@', (int) 'A', (int) 'Z', (int) '[', (int) 'a');

    /** Room for one more of everything. */
    private static final Made ROOM = new Made(OrderTest::room);
    /** Room for nothing but sightings; the vehicle 1 is gone, the fine 0 was named three times. */
    private static final Made FULL = new Made(OrderTest::full);
    /** No room for sightings, but something to sight in the buffer. */
    private static final Made SIGHTED_OUT = new Made(OrderTest::sightedOut);
    /** Too late to name; otherwise as the first. */
    private static final Made LATE = new Made(() -> {
        Platehall x = room();
        x.pass(15);
        return x;
    });

    private interface Call {
        Object on(Platehall x, int[] a);
    }

    /** What the document says that a call throws; null if nothing. */
    private interface Due {
        Class<? extends RuntimeException> of(int[] a);
    }

    public static void main(String[] args) {
        Checks.says("A method that throws an exception changes nothing.");
        Checks.says("If several exceptions apply, the one that is documented first is thrown.");
        Checks.says("IndexOutOfBoundsException is thrown where there is no such vehicle, person, sighting, fine, or "
                + "place of a sign; IllegalArgumentException if another argument is out of range.");
        vehicles();
        people();
        events();
        plates();
        taxes();
        testsAndInsurance();
        sightings();
        fines();
        looksAndDays();
        Checks.end();
    }

    /** 11 vehicles, of which the first ones have AA00 and AA01, 9 people; BB12 is in the buffer. */
    private static Platehall room() {
        Platehall x = new Platehall();
        x.pass(TODAY);
        int[] serials = {1, 10, 100, 1000, 9999, 1234, 11, 12, 13, 14, 15};
        for (int serial : serials) {
            x.vehicle(serial, BUILT, 0);
        }
        for (int i = 0; i < 9; i++) {
            x.person();
        }
        x.allot(0);
        x.allot(1);
        x.tell(0, Platehall.KEEPER, 0, BUILT);
        for (int i = 1; i < 29; i++) {
            x.tell(0, i < 15 ? Platehall.ON : Platehall.OWNER, 0, BUILT);
        }
        for (int i = 0; i < 39; i++) {
            x.rate(0, i, i);
        }
        for (int i = 0; i < 19; i++) {
            x.test(0, BUILT + 5, 0, 0);
        }
        Checks.sightOf(x, "AA00", 0, 0);
        Checks.sightOf(x, "AA0?", 0, 0);
        Checks.sightOf(x, "AA01", 0, 0);
        x.fine(SIGHTED, 5);
        x.fine(OF_NOBODY, 5);
        Checks.typeAll(x, "BB12");
        return x;
    }

    private static Platehall full() {
        Platehall x = room();
        x.clear();
        x.vehicle(16, BUILT, 0);
        x.person();
        x.tell(0, Platehall.FOUND, 0, BUILT);
        x.rate(0, 0, 0);
        x.test(0, BUILT + 5, 0, 0);
        x.name(0, 1);
        x.name(0, 2);
        x.name(0, 0);
        for (int i = 2; i < 20; i++) {
            x.fine(SIGHTED, 5);
        }
        x.tell(1, Platehall.SCRAPPED, 0, BUILT);
        Checks.typeAll(x, "BB12BB12");
        return x;
    }

    private static Platehall sightedOut() {
        Platehall x = new Platehall();
        x.vehicle(1, 0, 0);
        x.allot(0);
        for (int i = 0; i < 40; i++) {
            Checks.sightOf(x, "AA00", 0, 0);
        }
        Checks.typeAll(x, "AA00");
        return x;
    }

    /** One call for each choice of one value from each list. */
    private static void all(String name, Made made, Due due, Call call, List<?>... values) {
        int choices = 1;
        for (List<?> list : values) {
            choices *= list.size();
        }
        for (int choice = 0; choice < choices; choice++) {
            int[] a = new int[values.length];
            int rest = choice;
            for (int i = 0; i < a.length; i++) {
                a[i] = (Integer) values[i].get(rest % values[i].size());
                rest /= values[i].size();
            }
            one(name + Arrays.toString(a) + (made == FULL ? " when full" : ""), made, due.of(a), call, a);
        }
    }

    private static void one(String named, Made made, Class<? extends RuntimeException> due, Call call, int[] a) {
        if (due == null) {
            Checks.due(named, Checks.thrown(made.one(), x -> call.on(x, a)), "nothing");
        } else {
            made.refuses(named, due, x -> call.on(x, a));
        }
    }

    private static boolean in(int number, int least, int most) {
        return least <= number && number <= most;
    }

    /** The first one that applies. */
    private static Class<? extends RuntimeException> first(boolean index, boolean argument, boolean state) {
        if (index) {
            return Checks.INDEX;
        }
        if (argument) {
            return Checks.ARGUMENT;
        }
        return state ? Checks.STATE : null;
    }

    private static void vehicles() {
        List<Integer> serials = Arrays.asList(LEAST, -1, 0, 1, 2, 17, 9998, 10000);
        List<Integer> days = Arrays.asList(-1, 0, TODAY, TODAY + 1);
        List<Integer> classes = Arrays.asList(-1, 0, 3, 4);
        for (Made made : new Made[] {ROOM, FULL}) {
            all("vehicle", made, a -> {
                boolean good = in(a[0], 0, 9999) && a[0] != 2 && in(a[1], 0, TODAY) && in(a[2], 0, 3);
                return first(false, !good, a[0] == 1 || made == FULL);
            }, (x, a) -> x.vehicle(a[0], a[1], a[2]), serials, days, classes);
            all("stamped", made, a -> first(false, a[0] != 15 && a[0] != 0 && a[0] != 99995, false),
                    (x, a) -> x.stamped(a[0]),
                    Arrays.asList(LEAST, -1, 0, 1, 14, 15, 16, 20, 30, 99995, 99999, 100000));
        }
    }

    private static void people() {
        all("type", ROOM, a -> null, (x, a) -> x.type((char) a[0]), Arrays.asList(0, (int) 'A', 65535));
        all("type", FULL, a -> Checks.STATE, (x, a) -> x.type((char) a[0]), Arrays.asList(0, (int) 'A', 65535));
        all("clear", FULL, a -> null, (x, a) -> x.clear());
        all("person", ROOM, a -> null, (x, a) -> x.person());
        all("person", FULL, a -> Checks.STATE, (x, a) -> x.person());
        for (Made made : new Made[] {ROOM, FULL}) {
            int last = made == FULL ? 9 : 8;
            all("protect", made, a -> first(!in(a[0], 0, last), false, false), (x, a) -> x.protect(a[0], a[1] == 1),
                    Arrays.asList(LEAST, -1, 0, 8, 9, 10, MOST), Arrays.asList(0, 1));
            all("fines", made, a -> first(!in(a[0], 0, last), false, false), (x, a) -> x.fines(a[0]),
                    Arrays.asList(LEAST, -1, 0, 8, 9, 10, MOST));
            all("looked", made, a -> first(!in(a[0], 0, last), false, false), (x, a) -> x.looked(a[0]),
                    Arrays.asList(LEAST, -1, 0, 8, 9, 10, MOST));
        }
    }

    private static boolean isWith(int kind, int what) {
        if (kind == Platehall.KEEPER || kind == Platehall.OWNER) {
            return true;
        }
        return kind == Platehall.CLASS ? in(what, 0, 3) : what == 0;
    }

    private static void events() {
        List<Integer> vehicles = Arrays.asList(-1, 0, 1, 12);
        List<Integer> kinds = Arrays.asList(-1, 0, 1, 2, 6, 7, 8);
        List<Integer> whats = Arrays.asList(-1, 0, 1, 3, 4, 10);
        List<Integer> days = Arrays.asList(BUILT - 1, BUILT, TODAY, TODAY + 1);
        for (Made made : new Made[] {ROOM, FULL}) {
            int people = made == FULL ? 10 : 9;
            int cars = made == FULL ? 12 : 11;
            all("tell", made, a -> {
                boolean person = a[1] != 0 && a[1] != 1 || in(a[2], 0, people - 1);
                boolean good = in(a[1], 0, 7) && isWith(a[1], a[2]) && in(a[3], BUILT, TODAY);
                return first(!in(a[0], 0, cars - 1) || !person, !good, made == FULL && a[0] == 0);
            }, (x, a) -> x.tell(a[0], a[1], a[2], a[3]), vehicles, kinds, whats, days);
        }
        Due due = a -> first(!in(a[0], 0, 10), !in(a[1], 0, TODAY) || !in(a[2], 0, 3), false);
        List<Integer> asked = Arrays.asList(-1, 0, TODAY, TODAY + 1);
        List<Integer> parts = Arrays.asList(-1, 0, 1, 2, 3, 4);
        all("on", ROOM, due, (x, a) -> x.on(a[0], a[1], a[2]), Arrays.asList(-1, 0, 10, 11), asked, parts);
        all("onAnew", ROOM, due, (x, a) -> x.onAnew(a[0], a[1], a[2]), Arrays.asList(-1, 0, 10, 11), asked, parts);
    }

    private static void plates() {
        all("bar", ROOM, a -> first(false, !in(a[0], 'A', 'Z') || !in(a[1], 'A', 'Z'), false),
                (x, a) -> x.bar((char) a[0], (char) a[1], a[2] == 1), LETTERS, LETTERS, Arrays.asList(0, 1));
        List<Integer> vehicles = Arrays.asList(LEAST, -1, 0, 1, 10, 11, 12, MOST);
        for (Made made : new Made[] {ROOM, FULL}) {
            int last = made == FULL ? 11 : 10;
            all("allot", made, a -> first(!in(a[0], 0, last), false, made == FULL && a[0] == 1),
                    (x, a) -> x.allot(a[0]), vehicles);
            all("wish", made, a -> first(!in(a[0], 0, last), false, made == FULL), (x, a) -> x.wish(a[0]), vehicles);
            all("look", made, a -> first(!in(a[0], 0, last), false, false), (x, a) -> x.look(a[0]), vehicles);
            all("plate", made, a -> first(!in(a[0], 0, last) || !in(a[2], 0, 3), !in(a[1], 0, TODAY), false),
                    (x, a) -> x.plate(a[0], a[1], a[2]), vehicles, Arrays.asList(-1, 0, TODAY, TODAY + 1),
                    Arrays.asList(-1, 0, 3, 4));
        }
    }

    private static void taxes() {
        for (Made made : new Made[] {ROOM, FULL}) {
            all("rate", made, a -> first(false, !in(a[0], 0, 3) || !in(a[1], 0, 20000) || !in(a[2], 0, 100000),
                    made == FULL), (x, a) -> x.rate(a[0], a[1], a[2]), Arrays.asList(-1, 0, 3, 4),
                    Arrays.asList(-1, 0, 20000, 20001), Arrays.asList(-1, 0, 100000, 100001));
        }
        List<Integer> vehicles = Arrays.asList(LEAST, -1, 0, 10, 11, MOST);
        all("pay", ROOM, a -> first(!in(a[0], 0, 10), !in(a[1], 1, 1000000), false), (x, a) -> x.pay(a[0], a[1]),
                vehicles, Arrays.asList(LEAST, -1, 0, 1, 1000000, 1000001, MOST));
        all("owes", ROOM, a -> first(!in(a[0], 0, 10), false, false), (x, a) -> x.owes(a[0]), vehicles);
    }

    private static void testsAndInsurance() {
        List<Integer> vehicles = Arrays.asList(-1, 0, 1, 12);
        for (Made made : new Made[] {ROOM, FULL}) {
            all("test", made, a -> {
                int least = a[0] == 0 ? BUILT + 5 : BUILT;
                boolean good = in(a[1], least, TODAY) && in(a[2], 0, 2) && in(a[3], 0, 10000000);
                return first(a[0] == -1 || a[0] == 12, !good, made == FULL && a[0] == 0);
            }, (x, a) -> x.test(a[0], a[1], a[2], a[3]), vehicles,
                    Arrays.asList(BUILT - 1, BUILT, BUILT + 4, BUILT + 5, TODAY, TODAY + 1), Arrays.asList(-1, 0, 2, 3),
                    Arrays.asList(-1, 0, 10000000, 10000001));
        }
        all("insure", ROOM, a -> first(!in(a[0], 0, 10), a[1] != -1 && !in(a[1], TODAY, 20000), false),
                (x, a) -> x.insure(a[0], a[1]), Arrays.asList(LEAST, -1, 0, 10, 11, MOST),
                Arrays.asList(LEAST, -2, -1, 0, TODAY - 1, TODAY, 20000, 20001, MOST));
        all("ofVehicle", ROOM, a -> first(!in(a[0], 0, 10), !in(a[1], 0, 4), false), (x, a) -> x.ofVehicle(a[0], a[1]),
                Arrays.asList(LEAST, -1, 0, 10, 11, MOST), Arrays.asList(LEAST, -1, 0, 1, 2, 3, 4, 5, MOST));
    }

    private static void sightings() {
        for (Made made : new Made[] {ROOM, FULL, SIGHTED_OUT}) {
            all("sight", made, a -> first(false, !in(a[0], 0, 9) || !in(a[1], 0, 1439), made != ROOM),
                    (x, a) -> x.sight(a[0], a[1]), Arrays.asList(LEAST, -1, 0, 9, 10, MOST),
                    Arrays.asList(LEAST, -1, 0, 1439, 1440, MOST));
            all("seen", made, a -> first(!in(a[0], 0, made == SIGHTED_OUT ? 39 : 2), false, false),
                    (x, a) -> x.seen(a[0]), Arrays.asList(LEAST, -1, 0, 2, 3, 39, 40, MOST));
        }
    }

    private static void fines() {
        for (Made made : new Made[] {ROOM, FULL}) {
            all("fine", made, a -> first(!in(a[0], 0, 2), !in(a[1], 1, 100000), made == FULL || a[0] == OF_SEVERAL),
                    (x, a) -> x.fine(a[0], a[1]), Arrays.asList(LEAST, -1, SIGHTED, OF_SEVERAL, OF_NOBODY, 3, 40, MOST),
                    Arrays.asList(LEAST, -1, 0, 1, 100000, 100001, MOST));
        }
        for (Made made : new Made[] {ROOM, LATE, FULL}) {
            int fines = made == FULL ? 20 : 2;
            int people = made == FULL ? 10 : 9;
            // fine 0 is of person 0, fine 1 of nobody, and all others of person 0
            all("name", made, a -> first(!in(a[0], 0, fines - 1) || !in(a[1], 0, people - 1), false,
                    a[0] == 1 || a[1] == 0 || made == LATE || made == FULL && a[0] == 0),
                    (x, a) -> x.name(a[0], a[1]), Arrays.asList(LEAST, -1, 0, 1, 2, 19, 20, MOST),
                    Arrays.asList(LEAST, -1, 0, 1, 8, 9, 10, MOST));
            all("whose", made, a -> first(!in(a[0], 0, fines - 1), false, false), (x, a) -> x.whose(a[0]),
                    Arrays.asList(LEAST, -1, 0, 1, 2, 19, 20, MOST));
        }
    }

    private static void looksAndDays() {
        for (int day : new int[] {0, 19600, 19999, 20000}) {
            Made made = new Made(() -> {
                Platehall x = new Platehall();
                x.vehicle(1, 0, 0);
                Checks.passTo(x, 0, day);
                return x;
            });
            all("pass on day " + day, made, a -> first(false, !in(a[0], 1, 400), day + (long) a[0] > 20000),
                    (x, a) -> x.pass(a[0]), Arrays.asList(LEAST, -1, 0, 1, 2, 399, 400, 401, MOST));
        }
    }
}
