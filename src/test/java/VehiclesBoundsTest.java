/** The bounds that the document names of vehicles, their numbers and people: Terms, and promises 4 to 7. */
public final class VehiclesBoundsTest {
    private static final int NEVER_STAMPED = 10;
    private static final int[] SERIALS = {0, 1, 10, 100, 1000, 9999, 1234, 11, 12, 13, 14, 15};

    /** Day 20; two vehicles, built on the first day and today, and one person. */
    private static final Made SOME = new Made(() -> {
        Platehall x = new Platehall();
        x.pass(20);
        x.person();
        x.vehicle(1, 0, 0);
        x.vehicle(9999, 20, 3);
        return x;
    });

    public static void main(String[] args) {
        numbersOfVehicles();
        builtAndClass();
        serials();
        checkDigits();
        oneSerialOnce();
        numbersOfPeople();
        vehicle();
        stamped();
        personAndProtect();
        Checks.end();
    }

    private static Made brought(int vehicles) {
        return new Made(() -> {
            Platehall x = new Platehall();
            for (int i = 0; i < vehicles; i++) {
                x.vehicle(SERIALS[i], 0, 0);
            }
            return x;
        });
    }

    private static Made crowd(int people) {
        return new Made(() -> {
            Platehall x = new Platehall();
            x.vehicle(1, 0, 0);
            for (int i = 0; i < people; i++) {
                x.person();
            }
            return x;
        });
    }

    private static void numbersOfVehicles() {
        Checks.says("Vehicles are numbered from 0, at most 12; each was built on a day, has a class, 0 to 3, at first, "
                + "and a stamped number: a serial, 0 to 9999, and its check digit: its four digits, the first one "
                + "first, times 2, 3, 4 and 5, together, modulo 11; a serial for which that is 10 is never stamped.");
        for (int there = 0; there < 12; there++) {
            int number = there;
            brought(there).answers("vehicle number " + there, number, x -> x.vehicle(9998, 0, 0));
            brought(there).refuses("owes(" + there + ") ahead of it", Checks.INDEX, x -> x.owes(number));
            brought(there + 1).answers("owes(" + there + ") behind it", 0, x -> x.owes(number));
        }
        brought(12).refuses("a thirteenth", Checks.STATE, x -> x.vehicle(9998, 0, 0));
        brought(12).refuses("owes(12)", Checks.INDEX, x -> x.owes(12));
    }

    private static void builtAndClass() {
        SOME.answers("built on day 0", 2, x -> x.vehicle(10, 0, 1));
        SOME.answers("built today", 2, x -> x.vehicle(10, 20, 1));
        SOME.refuses("built on day -1", Checks.ARGUMENT, x -> x.vehicle(10, -1, 1));
        SOME.refuses("built tomorrow", Checks.ARGUMENT, x -> x.vehicle(10, 21, 1));
        for (int its = 0; its <= 3; its++) {
            int first = its;
            SOME.answers("of class " + its, first, x -> x.on(x.vehicle(10, 5, first), 20, 3));
        }
        SOME.refuses("of class -1", Checks.ARGUMENT, x -> x.vehicle(10, 5, -1));
        SOME.refuses("of class 4", Checks.ARGUMENT, x -> x.vehicle(10, 5, 4));
    }

    private static void serials() {
        SOME.answers("the serial 0", 2, x -> x.vehicle(0, 0, 0));
        brought(1).answers("the serial 9999", 1, x -> x.vehicle(9999, 0, 0));
        SOME.refuses("the serial -1", Checks.ARGUMENT, x -> x.vehicle(-1, 0, 0));
        SOME.refuses("the serial 10000", Checks.ARGUMENT, x -> x.vehicle(10000, 0, 0));
        SOME.refuses("a serial far below", Checks.ARGUMENT, x -> x.vehicle(Integer.MIN_VALUE, 0, 0));
        SOME.refuses("a serial far above", Checks.ARGUMENT, x -> x.vehicle(Integer.MAX_VALUE, 0, 0));
        // the digits come to 9, 10 and 11, then to 20, 21 and 22
        int[] serials = {300, 1020, 120, 131, 203, 402};
        int[] numbers = {3009, Platehall.NONE, 1200, 1319, Platehall.NONE, 4020};
        for (int i = 0; i < serials.length; i++) {
            int serial = serials[i];
            if (numbers[i] == Platehall.NONE) {
                SOME.refuses(serial + " is never stamped", Checks.ARGUMENT, x -> x.vehicle(serial, 0, 0));
            } else {
                SOME.answers(serial + " is stamped", numbers[i], x -> x.ofVehicle(x.vehicle(serial, 0, 0), 0));
            }
        }
        SOME.answers("9999 is stamped", 99995, x -> x.ofVehicle(1, 0));
    }

    private static int digitOf(int serial) {
        int[] digits = {serial / 1000, serial / 100 % 10, serial / 10 % 10, serial % 10};
        int sum = 0;
        for (int i = 0; i < 4; i++) {
            sum += digits[i] * (i + 2);
        }
        return sum % 11;
    }

    /** Each serial that there is. */
    private static void checkDigits() {
        for (int serial = 0; serial <= 9999; serial++) {
            Platehall x = new Platehall();
            int asked = serial;
            if (digitOf(serial) == NEVER_STAMPED) {
                Checks.due("vehicle(" + serial + ", 0, 0)", Checks.thrown(x, p -> p.vehicle(asked, 0, 0)),
                        "IllegalArgumentException");
                Checks.due("its number is free", x.vehicle(0, 0, 0), 0);
            } else {
                int number = serial * 10 + digitOf(serial);
                Checks.due("stamped(" + number + ") ahead of it", x.stamped(number), Platehall.NONE);
                Checks.due("vehicle(" + serial + ", 0, 0)", x.vehicle(serial, 0, 0), 0);
                Checks.due("ofVehicle(0, 0) of " + serial, x.ofVehicle(0, 0), number);
                Checks.due("stamped(" + number + ")", x.stamped(number), 0);
            }
        }
    }

    private static void oneSerialOnce() {
        Checks.says("No two vehicles have one serial.");
        for (int i = 0; i < 12; i++) {
            int serial = SERIALS[i];
            brought(12).refuses("a second one of " + serial, Checks.STATE, x -> x.vehicle(serial, 0, 0));
            brought(i + 1).refuses("a second one behind " + serial, Checks.STATE, x -> x.vehicle(serial, 0, 0));
            brought(i).answers("the first one of " + serial, i, x -> x.vehicle(serial, 0, 0));
        }
        SOME.refuses("of another day and class", Checks.STATE, x -> x.vehicle(1, 20, 3));
        Platehall x = SOME.one();
        Checks.due("refused for its class", Checks.thrown(x, p -> p.vehicle(10, 0, 4)), "IllegalArgumentException");
        Checks.due("it had not the serial", x.vehicle(10, 0, 3), 2);
        x.tell(0, Platehall.SCRAPPED, 0, 20);
        Checks.due("a gone one still has it", Checks.thrown(x, p -> p.vehicle(1, 0, 0)), "IllegalStateException");
    }

    private static void numbersOfPeople() {
        Checks.says("People are numbered from 0, at most 10.");
        for (int there = 0; there < 10; there++) {
            int number = there;
            crowd(there).answers("person number " + there, number, x -> x.person());
            crowd(there).refuses("looked(" + there + ") ahead of them", Checks.INDEX, x -> x.looked(number));
            crowd(there + 1).answers("looked(" + there + ") behind them", 0, x -> x.looked(number));
        }
        crowd(10).refuses("an eleventh", Checks.STATE, x -> x.person());
        crowd(10).refuses("looked(10)", Checks.INDEX, x -> x.looked(10));
    }

    private static void vehicle() {
        Checks.promise(4, "Brings a vehicle.");
        SOME.answers("its serial behind it", 2, x -> {
            x.vehicle(10, 0, 1);
            return x.stamped(104);
        });
        Checks.promise(4, "serial: 0 to 9999");
        for (int serial : new int[] {-1, -9999, 10000, 10001, 99999}) {
            SOME.refuses("vehicle(" + serial + ", 0, 0)", Checks.ARGUMENT, x -> x.vehicle(serial, 0, 0));
        }
        Checks.promise(4, "built: 0 to today");
        for (int built : new int[] {-1, 21, Integer.MIN_VALUE, Integer.MAX_VALUE}) {
            SOME.refuses("vehicle(10, " + built + ", 0)", Checks.ARGUMENT, x -> x.vehicle(10, built, 0));
        }
        for (int built = 0; built <= 20; built++) {
            int day = built;
            SOME.answers("vehicle(10, " + built + ", 0): tested until", 1080 + built,
                    x -> x.ofVehicle(x.vehicle(10, day, 0), 1));
        }
        Checks.promise(4, "its: its class at first, 0 to 3");
        for (int its : new int[] {-1, 4, Integer.MIN_VALUE, Integer.MAX_VALUE}) {
            SOME.refuses("vehicle(10, 0, " + its + ")", Checks.ARGUMENT, x -> x.vehicle(10, 0, its));
        }
        Checks.promise(4, "Returns its number.");
        brought(0).answers("the first", 0, x -> x.vehicle(10, 0, 0));
        brought(11).answers("the twelfth", 11, x -> x.vehicle(9998, 0, 0));
        Checks.promise(4, "Throws IllegalArgumentException if serial, built or its is out of range, or the serial is "
                + "never stamped");
        brought(12).refuses("a serial out of range and 12", Checks.ARGUMENT, x -> x.vehicle(10000, 0, 0));
        brought(12).refuses("built tomorrow and 12", Checks.ARGUMENT, x -> x.vehicle(9998, 1, 0));
        brought(12).refuses("a class out of range and 12", Checks.ARGUMENT, x -> x.vehicle(9998, 0, 4));
        brought(12).refuses("never stamped and 12", Checks.ARGUMENT, x -> x.vehicle(2, 0, 0));
        SOME.refuses("never stamped", Checks.ARGUMENT, x -> x.vehicle(2, 0, 0));
        Checks.promise(4, "Throws IllegalStateException if another one has it, or there are 12");
        SOME.refuses("another one has it", Checks.STATE, x -> x.vehicle(9999, 0, 0));
        brought(12).refuses("there are 12", Checks.STATE, x -> x.vehicle(9998, 0, 0));
        brought(12).refuses("there are 12, and one has it", Checks.STATE, x -> x.vehicle(0, 0, 0));
    }

    private static void stamped() {
        Checks.promise(5, "Finds the vehicle of a stamped number.");
        SOME.answers("stamped(15)", 0, x -> x.stamped(15));
        SOME.answers("stamped(99995)", 1, x -> x.stamped(99995));
        Checks.promise(5, "stamped: 10 times the serial, and the check digit, together");
        for (int near : new int[] {14, 16, 99994, 99996, 5, 9}) {
            SOME.refuses("stamped(" + near + ")", Checks.ARGUMENT, x -> x.stamped(near));
        }
        Checks.promise(5, "Returns the vehicle; NONE if there is none with that serial.");
        SOME.answers("stamped(0)", Platehall.NONE, x -> x.stamped(0));
        SOME.answers("stamped(104)", Platehall.NONE, x -> x.stamped(104));
        brought(0).answers("stamped(15) of none at all", Platehall.NONE, x -> x.stamped(15));
        brought(12).answers("stamped(157), the twelfth", 11, x -> x.stamped(157));
        Checks.promise(5, "Throws IllegalArgumentException if that is no stamped number");
        // 2 has no digit: neither 2 and any one, nor 20 and 10 together, which would be that of 3
        for (int number = 20; number <= 30; number++) {
            int never = number;
            SOME.refuses("stamped(" + never + ")", Checks.ARGUMENT, x -> x.stamped(never));
        }
        for (int number : new int[] {-1, -15, 100000, 100009, 1000002, Integer.MIN_VALUE, Integer.MAX_VALUE}) {
            SOME.refuses("stamped(" + number + ")", Checks.ARGUMENT, x -> x.stamped(number));
        }
    }

    private static void personAndProtect() {
        Checks.promise(6, "Brings a person.");
        crowd(1).answers("looked(1)", 0, x -> x.looked(x.person()));
        Checks.promise(6, "Returns the number.");
        crowd(9).answers("the tenth", 9, x -> x.person());
        Checks.promise(6, "Throws IllegalStateException if there are 10");
        crowd(10).refuses("an eleventh", Checks.STATE, x -> x.person());
        Checks.promise(7, "Tells whether a person is protected.");
        Made two = crowd(2);
        two.answers("who is protected is not seen", Platehall.NONE, x -> {
            x.tell(0, Platehall.KEEPER, 1, 0);
            x.protect(1, true);
            return Checks.lookOf(x, "clamper", 0);
        });
        Checks.promise(7, "person: their number");
        two.answers("protect(0)", false, x -> x.protect(0, true));
        two.answers("protect(1)", false, x -> x.protect(1, true));
        for (int number : new int[] {-1, 2, 10, Integer.MIN_VALUE, Integer.MAX_VALUE}) {
            two.refuses("protect(" + number + ", true)", Checks.INDEX, x -> x.protect(number, true));
            two.refuses("protect(" + number + ", false)", Checks.INDEX, x -> x.protect(number, false));
        }
        Checks.promise(7, "is: whether they are");
        two.answers("behind true", true, x -> {
            x.protect(1, true);
            return x.protect(1, true);
        });
        two.answers("behind false", false, x -> {
            x.protect(1, false);
            return x.protect(1, true);
        });
        Checks.promise(7, "Returns whether they were.");
        two.answers("at first", false, x -> x.protect(1, true));
        two.answers("behind another one", false, x -> {
            x.protect(0, true);
            return x.protect(1, true);
        });
        two.answers("behind true, told as false", true, x -> {
            x.protect(1, true);
            return x.protect(1, false);
        });
        two.answers("behind true and false", false, x -> {
            x.protect(1, true);
            x.protect(1, false);
            return x.protect(1, true);
        });
        Checks.promise(7, "Throws IndexOutOfBoundsException if there is no such person");
        crowd(0).refuses("protect(0) of none at all", Checks.INDEX, x -> x.protect(0, true));
        crowd(10).refuses("protect(10) of ten", Checks.INDEX, x -> x.protect(10, true));
        crowd(10).answers("protect(9) of ten", false, x -> x.protect(9, true));
    }
}
