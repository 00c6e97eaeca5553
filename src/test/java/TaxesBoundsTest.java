/** The bounds that the document names of months, rates and payments: Terms, and promises 15 to 17. */
public final class TaxesBoundsTest {
    private static final int[] NO_VEHICLES = {-1, 2, 12, Integer.MIN_VALUE, Integer.MAX_VALUE};
    private static final String OWED = "A month that has begun owes tax, if the vehicle is in the state ROAD on its "
            + "first day: the rate of its class on that day, of those told for the class from a day on, up to that "
            + "day, the latest one, of one day the one told last; 0 without.";

    /** Day 0; a vehicle of class 0 that is on the road, and one of class 3 that is not; a rate of class 0. */
    private static final Made SOME = new Made(TaxesBoundsTest::some);

    public static void main(String[] args) {
        months();
        stateOnTheFirstDay();
        classOnThatDay();
        rateOfThatDay();
        latestRate();
        sumByWhatIsToldNow();
        lessWhatWasPaid();
        rate();
        fortyRates();
        pay();
        owes();
        Checks.end();
    }

    private static Platehall some() {
        Platehall x = new Platehall();
        x.vehicle(1, 0, 0);
        x.vehicle(10, 0, 3);
        x.tell(0, Platehall.ON, 0, 0);
        x.rate(0, 0, 100);
        return x;
    }

    private static Platehall on(int day) {
        Platehall x = some();
        Checks.passTo(x, 0, day);
        return x;
    }

    private static void months() {
        Checks.says("Months are of 30 days, from the day 0 on.");
        for (int day : new int[] {0, 1, 28, 29, 30, 31, 58, 59, 60, 89, 90, 359, 360, 19979, 19980, 20000}) {
            Checks.due("owed on day " + day, on(day).owes(0), 100 * (day / 30 + 1));
        }
        Platehall x = some();
        for (int day = 0; day < 130; day++) {
            Checks.due("owed on day " + day, x.owes(0), 100 * (day / 30 + 1));
            x.pass(1);
        }
    }

    /** What a vehicle owes on day 70, of which these events of some days were told. */
    private static void owed(String of, long want, int... kindsAndDays) {
        Platehall x = new Platehall();
        x.pass(70);
        x.vehicle(1, 0, 0);
        x.rate(0, 0, 100);
        for (int i = 0; i < kindsAndDays.length; i += 2) {
            x.tell(0, kindsAndDays[i], 0, kindsAndDays[i + 1]);
        }
        Checks.due(of, x.owes(0), want);
    }

    private static void stateOnTheFirstDay() {
        Checks.says(OWED);
        owed("never on the road", 0);
        owed("on from day 0", 300, Platehall.ON, 0);
        owed("on from day 1", 200, Platehall.ON, 1);
        owed("on from day 29", 200, Platehall.ON, 29);
        owed("on from day 30", 200, Platehall.ON, 30);
        owed("on from day 31", 100, Platehall.ON, 31);
        owed("on from day 60", 100, Platehall.ON, 60);
        owed("on from day 61", 0, Platehall.ON, 61);
        owed("on today", 0, Platehall.ON, 70);
        owed("off on day 29", 100, Platehall.ON, 0, Platehall.OFF, 29);
        owed("off on day 30", 100, Platehall.ON, 0, Platehall.OFF, 30);
        owed("off on day 31", 200, Platehall.ON, 0, Platehall.OFF, 31);
        owed("off and on between", 300, Platehall.ON, 0, Platehall.OFF, 31, Platehall.ON, 60);
        owed("off over a first day", 200, Platehall.ON, 0, Platehall.OFF, 30, Platehall.ON, 31);
        owed("on and off on day 30", 0, Platehall.ON, 30, Platehall.OFF, 30);
        owed("off and on on day 30", 200, Platehall.OFF, 30, Platehall.ON, 30);
        owed("in a garage", 0, Platehall.OFF, 0);
        owed("missing", 100, Platehall.ON, 0, Platehall.STOLEN, 30);
        owed("found", 200, Platehall.ON, 0, Platehall.STOLEN, 30, Platehall.FOUND, 60);
        owed("found where it was off", 0, Platehall.OFF, 0, Platehall.STOLEN, 30, Platehall.FOUND, 60);
        owed("gone", 100, Platehall.ON, 0, Platehall.SCRAPPED, 30);
        owed("gone on day 31", 200, Platehall.ON, 0, Platehall.SCRAPPED, 31);
        owed("gone, then on", 0, Platehall.SCRAPPED, 0, Platehall.ON, 30);
        for (int built : new int[] {59, 60, 61}) {
            Platehall x = new Platehall();
            x.pass(61);
            x.vehicle(1, built, 0);
            x.rate(0, 0, 100);
            x.tell(0, Platehall.ON, 0, built);
            Checks.due("built and on on day " + built, x.owes(0), built <= 60 ? 100 : 0);
        }
    }

    private static void classOnThatDay() {
        Platehall x = on(70);
        x.rate(1, 0, 10);
        x.tell(0, Platehall.CLASS, 1, 31);
        Checks.due("another class from day 31 on", x.owes(0), 210);
        x.tell(0, Platehall.CLASS, 1, 30);
        Checks.due("from day 30 on", x.owes(0), 120);
        x.tell(0, Platehall.CLASS, 0, 60);
        Checks.due("and back on day 60", x.owes(0), 210);
        x.tell(0, Platehall.CLASS, 2, 60);
        Checks.due("a class without a rate", x.owes(0), 110);
        x.tell(0, Platehall.CLASS, 1, 0);
        Checks.due("from day 0 on", x.owes(0), 20);
        for (int its = 0; its <= 3; its++) {
            Platehall each = new Platehall();
            each.vehicle(1, 0, its);
            each.tell(0, Platehall.ON, 0, 0);
            for (int rated = 0; rated <= 3; rated++) {
                each.rate(rated, 0, 10 + rated);
            }
            Checks.due("the class " + its, each.owes(0), 10 + its);
        }
    }

    private static void rateOfThatDay() {
        Checks.says(OWED);
        int[] froms = {0, 1, 29, 30, 31, 59, 60, 61, 90, 20000};
        int[] wants = {21, 14, 14, 14, 7, 7, 7, 0, 0, 0};
        for (int i = 0; i < froms.length; i++) {
            Platehall x = new Platehall();
            x.vehicle(1, 0, 2);
            x.tell(0, Platehall.ON, 0, 0);
            x.pass(89);
            x.rate(2, froms[i], 7);
            Checks.due("from day " + froms[i] + " on", x.owes(0), wants[i]);
        }
        Platehall without = new Platehall();
        without.vehicle(1, 0, 2);
        without.tell(0, Platehall.ON, 0, 0);
        Checks.due("without a rate", without.owes(0), 0);
        without.rate(1, 0, 5);
        without.rate(3, 0, 5);
        Checks.due("with rates of other classes", without.owes(0), 0);
        without.rate(2, 1, 5);
        Checks.due("with one of a later day", without.owes(0), 0);
        without.rate(2, 0, 5);
        Checks.due("with one of that day", without.owes(0), 5);
    }

    private static void latestRate() {
        Platehall x = on(61);
        x.rate(0, 30, 50);
        Checks.due("a later one", x.owes(0), 200);
        x.rate(0, 29, 70);
        Checks.due("one told behind it, of the day ahead", x.owes(0), 200);
        x.rate(0, 30, 60);
        Checks.due("of one day the one told last", x.owes(0), 220);
        x.rate(0, 0, 90);
        Checks.due("of the first day, told last", x.owes(0), 210);
        x.rate(0, 31, 1);
        Checks.due("from the day behind the first one", x.owes(0), 151);
        x.rate(0, 60, 0);
        Checks.due("of 0", x.owes(0), 150);
        x.rate(0, 61, 999);
        Checks.due("of no first day", x.owes(0), 150);
        x.rate(0, 30, 20);
        Checks.due("a third one of that day", x.owes(0), 110);
    }

    private static void sumByWhatIsToldNow() {
        Checks.says("What a vehicle owes is the sum of all these, by what is told now, less what was paid, perhaps "
                + "below 0.");
        Platehall x = on(60);
        Checks.due("three months", x.owes(0), 300);
        x.tell(0, Platehall.OFF, 0, 30);
        Checks.due("off since, told late", x.owes(0), 100);
        x.tell(0, Platehall.ON, 0, 60);
        Checks.due("and on again", x.owes(0), 200);
        x.rate(0, 0, 3);
        Checks.due("another rate, told late", x.owes(0), 6);
        x.rate(0, 90, 5);
        Checks.due("one of a month that has not begun", x.owes(0), 6);
        x.pass(30);
        Checks.due("which has begun", x.owes(0), 11);
        x.tell(0, Platehall.SCRAPPED, 0, 0);
        Checks.due("gone all the time", x.owes(0), 0);
    }

    private static void lessWhatWasPaid() {
        Platehall x = on(0);
        Checks.due("pay 99", x.pay(0, 99), 1);
        Checks.due("pay 1", x.pay(0, 1), 0);
        Checks.due("pay 1 more", x.pay(0, 1), -1);
        Checks.due("below 0", x.owes(0), -1);
        x.rate(0, 0, 0);
        Checks.due("by what is told now", x.owes(0), -101);
        x.tell(0, Platehall.SCRAPPED, 0, 0);
        x.rate(0, 0, 100);
        Checks.due("of a gone one", x.owes(0), -101);
        Checks.due("another one", x.owes(1), 0);
        Checks.due("pay of another one", x.pay(1, 7), -7);
        Checks.due("which is not this one", x.owes(0), -101);
        Platehall much = on(20000);
        much.rate(0, 0, 100000);
        Checks.due("the most that can be owed", much.owes(0), 66700000L);
        for (int i = 1; i <= 400; i++) {
            Checks.due("payment " + i, much.pay(0, 1000000), 66700000L - i * 1000000L);
        }
    }

    private static void rate() {
        Checks.promise(15, "Tells the rate of a class.");
        SOME.answers("it counts", 7L, x -> {
            x.rate(0, 0, 7);
            return x.owes(0);
        });
        Checks.promise(15, "its: 0 to 3");
        SOME.answers("the class 0", 2, x -> x.rate(0, 0, 5));
        SOME.answers("the class 3", 2, x -> x.rate(3, 0, 5));
        Checks.promise(15, "from: 0 to 20000: the day from which it holds");
        SOME.answers("from day 0", 2, x -> x.rate(0, 0, 5));
        SOME.answers("from day 20000", 2, x -> x.rate(0, 20000, 5));
        Checks.promise(15, "rate: 0 to 100000");
        SOME.answers("a rate of 0", 0L, x -> {
            x.rate(0, 0, 0);
            return x.owes(0);
        });
        SOME.answers("a rate of 100000", 100000L, x -> {
            x.rate(0, 0, 100000);
            return x.owes(0);
        });
        Checks.promise(15, "Throws IllegalArgumentException if its, from or rate is out of range");
        for (int far : new int[] {-1, Integer.MIN_VALUE, Integer.MAX_VALUE}) {
            SOME.refuses("the class " + far, Checks.ARGUMENT, x -> x.rate(far, 0, 5));
            SOME.refuses("from " + far, Checks.ARGUMENT, x -> x.rate(0, far, 5));
            SOME.refuses("a rate of " + far, Checks.ARGUMENT, x -> x.rate(0, 0, far));
        }
        SOME.refuses("the class 4", Checks.ARGUMENT, x -> x.rate(4, 0, 5));
        SOME.refuses("from day 20001", Checks.ARGUMENT, x -> x.rate(0, 20001, 5));
        SOME.refuses("a rate of 100001", Checks.ARGUMENT, x -> x.rate(0, 0, 100001));
    }

    private static Made rated(int rates, int its) {
        return new Made(() -> {
            Platehall x = some();
            for (int i = 1; i < rates; i++) {
                x.rate(its, i * 30, i);
            }
            return x;
        });
    }

    private static void fortyRates() {
        Checks.promise(15, "Returns how many rates were told.");
        Platehall x = new Platehall();
        for (int i = 0; i < 40; i++) {
            Checks.due("rate " + i, x.rate(i % 4, i / 8, i), i + 1);
        }
        Platehall refused = some();
        Checks.due("one out of range", Checks.thrown(refused, p -> p.rate(4, 0, 5)), "IllegalArgumentException");
        Checks.due("was not told", refused.rate(0, 0, 5), 2);
        Checks.promise(15, "Throws IllegalStateException if there were 40");
        for (int its = 0; its <= 3; its++) {
            int rated = its;
            rated(39, its).answers("the 40th", 40, p -> p.rate(0, 0, 5));
            rated(40, its).refuses("a 41st of class 0", Checks.STATE, p -> p.rate(0, 0, 5));
            rated(40, its).refuses("a 41st of class 3", Checks.STATE, p -> p.rate(3, 20000, 100000));
            rated(40, its).refuses("a 41st of a class " + its, Checks.STATE, p -> p.rate(rated, 30, 5));
            rated(40, its).refuses("out of range", Checks.ARGUMENT, p -> p.rate(4, 0, 5));
            rated(40, its).refuses("out of range", Checks.ARGUMENT, p -> p.rate(0, -1, 5));
            rated(40, its).refuses("out of range", Checks.ARGUMENT, p -> p.rate(0, 0, 100001));
        }
        Platehall all = rated(40, 0).one();
        Checks.passTo(all, 0, 40 * 30);
        Checks.due("all forty count", all.owes(0), 100 + 39 * 40 / 2 + 39);
    }

    private static void pay() {
        Checks.promise(16, "Pays tax.");
        SOME.answers("it counts", 95L, x -> {
            x.pay(0, 5);
            return x.owes(0);
        });
        Checks.promise(16, "vehicle: its number");
        SOME.answers("the first vehicle", 95L, x -> x.pay(0, 5));
        SOME.answers("the last vehicle", -5L, x -> x.pay(1, 5));
        Checks.promise(16, "amount: 1 to 1000000");
        SOME.answers("an amount of 1", 99L, x -> x.pay(0, 1));
        SOME.answers("an amount of 1000000", -999900L, x -> x.pay(0, 1000000));
        Checks.promise(16, "Returns what it owes then.");
        SOME.answers("behind another payment", 90L, x -> {
            x.pay(0, 4);
            return x.pay(0, 6);
        });
        Checks.promise(16, "Throws IndexOutOfBoundsException if there is no such vehicle");
        for (int vehicle : NO_VEHICLES) {
            SOME.refuses("the vehicle " + vehicle, Checks.INDEX, x -> x.pay(vehicle, 5));
            SOME.refuses("and an amount of 0", Checks.INDEX, x -> x.pay(vehicle, 0));
        }
        Checks.promise(16, "Throws IllegalArgumentException if amount is out of range");
        for (int amount : new int[] {0, -1, 1000001, Integer.MIN_VALUE, Integer.MAX_VALUE}) {
            SOME.refuses("an amount of " + amount, Checks.ARGUMENT, x -> x.pay(0, amount));
            SOME.refuses("an amount of " + amount, Checks.ARGUMENT, x -> x.pay(1, amount));
        }
    }

    private static void owes() {
        Checks.promise(17, "Returns what a vehicle owes.");
        SOME.answers("the first month", 100L, x -> x.owes(0));
        Checks.promise(17, "vehicle: its number");
        SOME.answers("the last vehicle", 0L, x -> x.owes(1));
        Checks.promise(17, "Returns the amount.");
        SOME.answers("asked twice", 100L, x -> {
            x.owes(0);
            return x.owes(0);
        });
        Checks.promise(17, "Throws IndexOutOfBoundsException if there is no such vehicle");
        for (int vehicle : NO_VEHICLES) {
            SOME.refuses("the vehicle " + vehicle, Checks.INDEX, x -> x.owes(vehicle));
        }
    }
}
