/** Promises 4 to 7: vehicle, stamped, person and protect. */
public final class VehiclesTest {
    private static final int[] SERIALS = {0, 1, 10, 100, 1000, 9999, 1234, 11, 12, 13, 14, 15};

    public static void main(String[] args) {
        vehicle();
        vehicleRefused();
        stamped();
        person();
        protect();
        Checks.end();
    }

    private static Platehall some() {
        Platehall x = new Platehall();
        x.pass(20);
        x.person();
        x.vehicle(1, 0, 0);
        x.vehicle(9999, 20, 3);
        return x;
    }

    private static void vehicle() {
        Platehall x = new Platehall();
        x.pass(10);
        for (int i = 0; i < SERIALS.length; i++) {
            Checks.due("vehicle " + i, x.vehicle(SERIALS[i], i % 11, i % 4), i);
            Checks.due("class at first " + i, x.on(i, 10, 3), i % 4);
        }
        Checks.due("a thirteenth", Checks.thrown(x, p -> p.vehicle(16, 0, 0)), "IllegalStateException");
        Checks.due("the thirteenth is not there", x.stamped(161), Platehall.NONE);
        Checks.due("the twelfth is", x.stamped(157), 11);
        Checks.due("built: tested until", x.ofVehicle(3, 1), 1083);
        // 1234: 1*2 + 2*3 + 3*4 + 4*5 = 40, modulo 11 is 7
        Checks.due("1234 is stamped", x.ofVehicle(6, 0), 12347);
        // 9999: 9*14 = 126, modulo 11 is 5
        Checks.due("9999 is stamped", x.ofVehicle(5, 0), 99995);
        Checks.due("0 is stamped", x.ofVehicle(0, 0), 0);
        Checks.due("1000 is stamped", x.ofVehicle(4, 0), 10002);
        Checks.due("100 is stamped", x.ofVehicle(3, 0), 1003);
    }

    private static void vehicleRefused() {
        Checks.refuses("serial -1", Checks.ARGUMENT, VehiclesTest::some, p -> p.vehicle(-1, 0, 0));
        Checks.refuses("serial 10000", Checks.ARGUMENT, VehiclesTest::some, p -> p.vehicle(10000, 0, 0));
        Checks.refuses("built -1", Checks.ARGUMENT, VehiclesTest::some, p -> p.vehicle(10, -1, 0));
        Checks.refuses("built tomorrow", Checks.ARGUMENT, VehiclesTest::some, p -> p.vehicle(10, 21, 0));
        Checks.refuses("class -1", Checks.ARGUMENT, VehiclesTest::some, p -> p.vehicle(10, 0, -1));
        Checks.refuses("class 4", Checks.ARGUMENT, VehiclesTest::some, p -> p.vehicle(10, 0, 4));
        Checks.refuses("serial 2 has no digit", Checks.ARGUMENT, VehiclesTest::some, p -> p.vehicle(2, 0, 0));
        // 5000: 10; 2020: 4 + 8 = 12, which is 1
        Checks.refuses("serial 5000 has no digit", Checks.ARGUMENT, VehiclesTest::some, p -> p.vehicle(5000, 0, 0));
        Checks.due("serial 2020 has one", some().vehicle(2020, 0, 0), 2);
        Checks.refuses("a serial twice", Checks.STATE, VehiclesTest::some, p -> p.vehicle(9999, 0, 0));
        Checks.refuses("a serial twice, and a bad class", Checks.ARGUMENT, VehiclesTest::some,
                p -> p.vehicle(9999, 0, 4));
        Checks.refuses("the least int", Checks.ARGUMENT, VehiclesTest::some,
                p -> p.vehicle(Integer.MIN_VALUE, Integer.MIN_VALUE, Integer.MIN_VALUE));
        Checks.refuses("a thirteenth", Checks.STATE, VehiclesTest::full, p -> p.vehicle(7, 0, 0));
        Checks.refuses("a thirteenth that is never stamped", Checks.ARGUMENT, VehiclesTest::full,
                p -> p.vehicle(2, 0, 0));
    }

    private static Platehall full() {
        Platehall x = new Platehall();
        for (int serial : SERIALS) {
            x.vehicle(serial, 0, 0);
        }
        return x;
    }

    private static void stamped() {
        Platehall x = some();
        Checks.due("stamped(15)", x.stamped(15), 0);
        Checks.due("stamped(99995)", x.stamped(99995), 1);
        Checks.due("stamped(104): not brought", x.stamped(104), Platehall.NONE);
        Checks.due("stamped(0): not brought", x.stamped(0), Platehall.NONE);
        for (int digit = 0; digit < 10; digit++) {
            int number = 10 + digit;
            if (digit != 5) {
                Checks.refuses("stamped(" + number + ")", Checks.ARGUMENT, VehiclesTest::some, p -> p.stamped(number));
            }
            int never = 20 + digit;
            Checks.refuses("stamped(" + never + ")", Checks.ARGUMENT, VehiclesTest::some, p -> p.stamped(never));
        }
        Checks.refuses("stamped(-1)", Checks.ARGUMENT, VehiclesTest::some, p -> p.stamped(-1));
        Checks.refuses("stamped(100000)", Checks.ARGUMENT, VehiclesTest::some, p -> p.stamped(100000));
        // 10000 as a serial would have the check digit 9
        Checks.refuses("stamped(100009)", Checks.ARGUMENT, VehiclesTest::some, p -> p.stamped(100009));
        Checks.refuses("stamped(least)", Checks.ARGUMENT, VehiclesTest::some, p -> p.stamped(Integer.MIN_VALUE));
        Checks.refuses("stamped(most)", Checks.ARGUMENT, VehiclesTest::some, p -> p.stamped(Integer.MAX_VALUE));
    }

    private static void person() {
        Platehall x = new Platehall();
        for (int i = 0; i < 10; i++) {
            Checks.due("person " + i, x.person(), i);
        }
        Checks.refuses("an eleventh", Checks.STATE, () -> {
            Platehall crowd = new Platehall();
            for (int i = 0; i < 10; i++) {
                crowd.person();
            }
            return crowd;
        }, p -> p.person());
    }

    private static void protect() {
        Platehall x = new Platehall();
        x.person();
        x.person();
        Checks.due("protect(0) at first", x.protect(0, true), false);
        Checks.due("protect(0) behind true", x.protect(0, true), true);
        Checks.due("protect(0) behind true, true", x.protect(0, false), true);
        Checks.due("protect(0) behind false", x.protect(0, false), false);
        Checks.due("protect(1) is another", x.protect(1, false), false);
        Checks.refuses("protect(-1)", Checks.INDEX, VehiclesTest::some, p -> p.protect(-1, true));
        Checks.refuses("protect(1)", Checks.INDEX, VehiclesTest::some, p -> p.protect(1, true));
        Checks.refuses("protect(most)", Checks.INDEX, VehiclesTest::some, p -> p.protect(Integer.MAX_VALUE, true));
    }
}
