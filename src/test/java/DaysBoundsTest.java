/** The bounds that the document names of days and of a whole life: Terms, and promises 1 and 29. */
public final class DaysBoundsTest {
    private static final int[] NUMBERS = {0, 1, -1, Integer.MIN_VALUE, Integer.MAX_VALUE};

    public static void main(String[] args) {
        days();
        lastDayIsADay();
        newObject();
        pass();
        passRefused();
        fiveHundredAndTwelveCalls();
        Checks.end();
    }

    /** With a vehicle of the first day, and another two to look whether it goes on. */
    private static Made on(int day) {
        return new Made(() -> {
            Platehall x = new Platehall();
            x.vehicle(1, 0, 0);
            x.vehicle(10, 0, 0);
            Checks.passTo(x, 0, day);
            return x;
        });
    }

    private static void days() {
        Checks.says("Days are counted from 0 on, at most 20000; today is 0 at first.");
        Made made = new Made(Platehall::new);
        made.answers("a vehicle built on day 0", 0, x -> x.vehicle(1, 0, 0));
        made.refuses("a vehicle built on day 1", Checks.ARGUMENT, x -> x.vehicle(1, 1, 0));
        made.refuses("a vehicle built on day -1", Checks.ARGUMENT, x -> x.vehicle(1, -1, 0));
        made.answers("the day behind today", 1, x -> x.pass(1));
        on(19999).answers("from 19999", 20000, x -> x.pass(1));
        on(19600).answers("from 19600", 20000, x -> x.pass(400));
        on(19601).refuses("one above from 19601", Checks.STATE, x -> x.pass(400));
        on(20000).refuses("one above from 20000", Checks.STATE, x -> x.pass(1));
        on(20000).refuses("400 above from 20000", Checks.STATE, x -> x.pass(400));
    }

    private static void lastDayIsADay() {
        Made made = on(20000);
        made.answers("built on it", 2, x -> x.vehicle(100, 20000, 0));
        made.refuses("built behind it", Checks.ARGUMENT, x -> x.vehicle(100, 20001, 0));
        made.answers("an event of it", 0, x -> x.tell(0, Platehall.ON, 0, 20000));
        made.refuses("an event behind it", Checks.ARGUMENT, x -> x.tell(0, Platehall.ON, 0, 20001));
        made.answers("a test of it", 20360, x -> x.test(0, 20000, 0, 0));
        made.refuses("a test behind it", Checks.ARGUMENT, x -> x.test(0, 20001, 0, 0));
        made.answers("insured until it", false, x -> x.insure(0, 20000));
        made.refuses("insured until a day behind it", Checks.ARGUMENT, x -> x.insure(0, 20001));
        made.answers("the state of it", Platehall.UNKNOWN, x -> x.on(0, 20000, 0));
        made.refuses("the state behind it", Checks.ARGUMENT, x -> x.on(0, 20001, 0));
        made.answers("a plate of it", "AA00", x -> {
            x.allot(0);
            return Checks.plateOf(x, 0, 20000);
        });
        made.answers("a sighting of its last minute", 0, x -> {
            x.allot(0);
            return x.seen(Checks.sightOf(x, "AA00", 9, 1439));
        });
        made.refuses("a plate behind it", Checks.ARGUMENT, x -> x.plate(0, 20001, 0));
    }

    private static void newObject() {
        Checks.promise(1, "No vehicles, no people, the day 0, an empty buffer.");
        Made made = new Made(Platehall::new);
        for (int number : NUMBERS) {
            made.refuses("owes " + number, Checks.INDEX, x -> x.owes(number));
            made.refuses("stated " + number, Checks.INDEX, x -> x.on(number, 0, 0));
            made.refuses("allotted " + number, Checks.INDEX, x -> x.allot(number));
            made.refuses("looked at " + number, Checks.INDEX, x -> x.look(number));
            made.refuses("looked " + number, Checks.INDEX, x -> x.looked(number));
            made.refuses("protected " + number, Checks.INDEX, x -> x.protect(number, true));
            made.refuses("fined " + number, Checks.INDEX, x -> x.fines(number));
            made.refuses("seen " + number, Checks.INDEX, x -> x.seen(number));
            made.refuses("fine of " + number, Checks.INDEX, x -> x.fine(number, 1));
            made.refuses("whose " + number, Checks.INDEX, x -> x.whose(number));
            made.refuses("named " + number, Checks.INDEX, x -> x.name(number, 0));
        }
        made.answers("signs", 0, x -> x.clear());
        made.answers("the first sign", 1, x -> x.type('A'));
        made.answers("the first vehicle", 0, x -> x.vehicle(0, 0, 0));
        made.answers("the first person", 0, x -> x.person());
        made.answers("the first rate", 1, x -> x.rate(0, 0, 0));
        made.answers("a serial", Platehall.NONE, x -> x.stamped(0));
        made.answers("a pair of letters", false, x -> x.bar('A', 'A', true));
        made.answers("the first day", 1, x -> x.pass(1));
        made.refuses("a sighting of no signs", Checks.STATE, x -> x.sight(0, 0));
        Platehall used = on(400).one();
        used.person();
        used.type('A');
        made.answers("another object was used", 0, x -> x.clear());
        made.answers("another object was used", 0, x -> x.person());
        made.answers("another object was used", 1, x -> x.pass(1));
    }

    private static void pass() {
        Checks.promise(29, "Lets days go by.");
        Platehall x = new Platehall();
        x.vehicle(1, 0, 0);
        x.pass(7);
        Checks.due("today is a day", x.on(0, 7, 0), Platehall.UNKNOWN);
        Checks.due("tomorrow is none yet", Checks.thrown(x, p -> p.on(0, 8, 0)), "IllegalArgumentException");
        Checks.promise(29, "days: 1 to 400");
        on(0).answers("pass(1)", 1, p -> p.pass(1));
        on(0).answers("pass(400)", 400, p -> p.pass(400));
        for (int days : new int[] {0, -1, 401, Integer.MIN_VALUE, Integer.MAX_VALUE}) {
            on(60).refuses("pass(" + days + ")", Checks.ARGUMENT, p -> p.pass(days));
        }
        Checks.promise(29, "Returns the day.");
        on(33).answers("pass(4)", 37, p -> p.pass(4));
        on(33).answers("pass(4), pass(5)", 42, p -> p.pass(4) + p.pass(5) - 37);
    }

    private static void passRefused() {
        Checks.promise(29, "Throws IllegalArgumentException if days is out of range");
        for (int days : new int[] {0, -1, -400, 401, Integer.MIN_VALUE, Integer.MAX_VALUE}) {
            on(20000).refuses("pass(" + days + ") on the last day", Checks.ARGUMENT, p -> p.pass(days));
        }
        Checks.promise(29, "Throws IllegalStateException if it would be above 20000");
        for (int days = 1; days <= 400; days += 57) {
            int passed = days;
            on(20000 - days).answers("to 20000 by " + days, 20000, p -> p.pass(passed));
            on(20001 - days).refuses("to 20001 by " + days, Checks.STATE, p -> p.pass(passed));
        }
    }

    private static void fiveHundredAndTwelveCalls() {
        Checks.says("An object is used for at most 512 calls after it has been made; what later calls answer is free.");
        Platehall plates = new Platehall();
        plates.vehicle(1, 0, 0);
        for (int i = 0; i < 254; i++) {
            Checks.due("plate " + i, plates.allot(0), i);
            Checks.due("day " + i, plates.pass(1), i + 1);
        }
        Checks.due("call 510", plates.allot(0), 254);
        Checks.due("call 511, of a day long ago", plates.plate(0, 17, 3), '7');
        Checks.due("call 512", plates.plate(0, 254, 3), '4');
        Platehall insured = new Platehall();
        insured.vehicle(1, 0, 0);
        insured.tell(0, Platehall.ON, 0, 0);
        for (int i = 0; i < 254; i++) {
            Checks.due("insured until yesterday", insured.insure(0, 2 * i), false);
            insured.pass(2);
        }
        Checks.due("call 511: each other day", insured.ofVehicle(0, 3), 255);
        Checks.due("call 512", insured.insure(0, 20000), false);
        Platehall looks = new Platehall();
        looks.vehicle(1, 0, 0);
        looks.person();
        looks.tell(0, Platehall.KEEPER, 0, 0);
        for (int i = 0; i < 72; i++) {
            Checks.due("look " + i, Checks.lookOf(looks, "police", 0), 0);
        }
        Checks.due("call 508", looks.looked(0), 72);
    }
}
