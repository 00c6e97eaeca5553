/** Promises 18 to 20: test, insure and ofVehicle (its clones stand in SightingsTest). */
public final class TestsAndInsuranceTest {
    private static final int STAMPED = 0, TESTED = 1, TURNED = 2, GAP = 3, CLONES = 4;

    public static void main(String[] args) {
        testedUntil();
        mileage();
        testDays();
        testRefused();
        insure();
        insureRefused();
        gap();
        gapOfLateEvents();
        gapOfManySpans();
        ofVehicleRefused();
        Checks.end();
    }

    private static Platehall some() {
        Platehall x = new Platehall();
        x.pass(100);
        x.vehicle(1, 40, 0);
        x.vehicle(10, 0, 0);
        x.tell(0, Platehall.ON, 0, 50);
        x.test(0, 60, 0, 500);
        return x;
    }

    private static void testedUntil() {
        Platehall x = new Platehall();
        x.pass(400);
        x.pass(400);
        x.vehicle(1, 10, 0);
        Checks.due("behind being built", x.ofVehicle(0, TESTED), 1090);
        Checks.due("a good test does not shorten it", x.test(0, 700, 0, 0), 1090);
        Checks.due("360 behind is the same", x.test(0, 730, 1, 0), 1090);
        Checks.due("a slight one makes it longer", x.test(0, 731, 1, 0), 1091);
        Checks.due("a good one makes it longer", x.test(0, 740, 0, 0), 1100);
        Checks.due("a dangerous one ends it", x.test(0, 750, 2, 0), 750);
        Checks.due("another one does not make it longer", x.test(0, 760, 2, 0), 750);
        Checks.due("that stays", x.ofVehicle(0, TESTED), 750);
        Checks.due("a good one behind that", x.test(0, 760, 0, 0), 1120);
        Checks.due("a dangerous one of the same day", x.test(0, 760, 2, 0), 760);
        Checks.due("a slight one of the same day", x.test(0, 760, 1, 0), 1120);
        x.vehicle(10, 800, 0);
        Checks.due("another one", x.ofVehicle(1, TESTED), 1880);
        Checks.due("it ends on its day", x.test(1, 800, 2, 0), 800);
    }

    private static void mileage() {
        Platehall x = some();
        int[] miles = {500, 499, 10000000, 0, 0, 1, 0};
        int[] turned = {0, 1, 1, 2, 2, 2, 3};
        for (int i = 0; i < miles.length; i++) {
            x.test(0, 60 + i, 0, miles[i]);
            Checks.due("turned back behind " + i, x.ofVehicle(0, TURNED), turned[i]);
        }
        Checks.due("the other one", x.ofVehicle(1, TURNED), 0);
        x.test(1, 0, 0, 0);
        Checks.due("the first one of the other", x.ofVehicle(1, TURNED), 0);
    }

    private static void testDays() {
        Platehall x = some();
        Checks.due("today", x.test(0, 100, 0, 1), 1120);
        Checks.due("on the day built", x.test(1, 0, 2, 1), 0);
        Checks.due("the latest test is that of the vehicle", x.test(1, 1, 0, 1), 361);
        Platehall full = full();
        Checks.due("another vehicle is not full", full.test(1, 0, 2, 0), 0);
    }

    private static Platehall full() {
        Platehall x = some();
        for (int i = 1; i < 20; i++) {
            x.test(0, 60 + i, 0, i);
        }
        return x;
    }

    private static void refusesTest(Class<? extends RuntimeException> due, int vehicle, int day, int grade,
            int mileage) {
        String call = "test(" + vehicle + ", " + day + ", " + grade + ", " + mileage + ")";
        Checks.refuses(call, due, TestsAndInsuranceTest::some, p -> p.test(vehicle, day, grade, mileage));
    }

    private static void testRefused() {
        refusesTest(Checks.INDEX, -1, 100, 0, 0);
        refusesTest(Checks.INDEX, 2, 999, 9, -9);
        refusesTest(Checks.ARGUMENT, 0, 101, 0, 0);
        refusesTest(Checks.ARGUMENT, 0, 59, 0, 0);
        refusesTest(Checks.ARGUMENT, 1, -1, 0, 0);
        refusesTest(Checks.ARGUMENT, 0, 100, -1, 0);
        refusesTest(Checks.ARGUMENT, 0, 100, 3, 0);
        refusesTest(Checks.ARGUMENT, 0, 100, 0, -1);
        refusesTest(Checks.ARGUMENT, 0, 100, 0, 10000001);
        refusesTest(Checks.ARGUMENT, 0, Integer.MIN_VALUE, Integer.MAX_VALUE, Integer.MIN_VALUE);
        Platehall built = new Platehall();
        built.pass(9);
        built.vehicle(1, 5, 0);
        Checks.due("ahead of being built", Checks.thrown(built, p -> p.test(0, 4, 0, 0)), "IllegalArgumentException");
        Checks.refuses("a 21st", Checks.STATE, TestsAndInsuranceTest::full, p -> p.test(0, 100, 2, 0));
        Checks.refuses("a 21st tomorrow", Checks.ARGUMENT, TestsAndInsuranceTest::full, p -> p.test(0, 101, 2, 0));
    }

    private static void insure() {
        Platehall x = some();
        Checks.due("at first", x.insure(0, 100), false);
        Checks.due("today is insured", x.insure(0, 100), true);
        x.pass(1);
        Checks.due("until yesterday", x.insure(0, 20000), false);
        x.pass(400);
        Checks.due("until the last day", x.insure(0, 510), true);
        x.pass(9);
        Checks.due("until today", x.insure(0, Platehall.NONE), true);
        Checks.due("ended", x.insure(0, Platehall.NONE), false);
        x.pass(1);
        Checks.due("ended for later days", x.insure(0, Platehall.NONE), false);
        Checks.due("the other one", x.insure(1, 600), false);
        Checks.due("shorter in place of longer", x.insure(1, 512), true);
        x.pass(2);
        Checks.due("what was told anew holds", x.insure(1, 600), false);
    }

    private static void insureRefused() {
        Checks.refuses("insure(0, 99)", Checks.ARGUMENT, TestsAndInsuranceTest::some, p -> p.insure(0, 99));
        Checks.refuses("insure(0, -2)", Checks.ARGUMENT, TestsAndInsuranceTest::some, p -> p.insure(0, -2));
        Checks.refuses("insure(0, 0)", Checks.ARGUMENT, TestsAndInsuranceTest::some, p -> p.insure(0, 0));
        Checks.refuses("insure(0, 20001)", Checks.ARGUMENT, TestsAndInsuranceTest::some, p -> p.insure(0, 20001));
        Checks.refuses("insure(2, 99)", Checks.INDEX, TestsAndInsuranceTest::some, p -> p.insure(2, 99));
        Checks.refuses("insure(-1, 200)", Checks.INDEX, TestsAndInsuranceTest::some, p -> p.insure(-1, 200));
    }

    private static void gap() {
        Platehall x = some();
        Checks.due("from the day on the road to today", x.ofVehicle(0, GAP), 51);
        Checks.due("never on the road", x.ofVehicle(1, GAP), 0);
        x.insure(0, 109);
        Checks.due("today is insured", x.ofVehicle(0, GAP), 50);
        x.pass(9);
        Checks.due("the last day with it", x.ofVehicle(0, GAP), 50);
        x.pass(1);
        Checks.due("a day behind that", x.ofVehicle(0, GAP), 51);
        x.insure(0, 115);
        x.insure(0, Platehall.NONE);
        Checks.due("told anew on one day", x.ofVehicle(0, GAP), 51);
        x.insure(0, 120);
        x.pass(3);
        x.insure(0, Platehall.NONE);
        Checks.due("ended: today is not insured", x.ofVehicle(0, GAP), 51);
        x.pass(2);
        Checks.due("nor are those behind", x.ofVehicle(0, GAP), 53);
        x.insure(0, 20000);
        x.pass(5);
        x.insure(0, 122);
        x.pass(5);
        Checks.due("less in place of more", x.ofVehicle(0, GAP), 55);
    }

    private static void gapOfLateEvents() {
        Platehall x = some();
        x.insure(1, 110);
        x.pass(20);
        Checks.due("not on the road", x.ofVehicle(1, GAP), 0);
        x.tell(1, Platehall.ON, 0, 120);
        Checks.due("today", x.ofVehicle(1, GAP), 1);
        x.tell(1, Platehall.ON, 0, 105);
        Checks.due("told late", x.ofVehicle(1, GAP), 10);
        x.tell(1, Platehall.ON, 0, 98);
        Checks.due("told later still", x.ofVehicle(1, GAP), 12);
        x.tell(1, Platehall.OFF, 0, 99);
        Checks.due("off at once", x.ofVehicle(1, GAP), 11);
        x.tell(1, Platehall.STOLEN, 0, 112);
        Checks.due("missing", x.ofVehicle(1, GAP), 2);
        x.tell(1, Platehall.FOUND, 0, 119);
        Checks.due("found", x.ofVehicle(1, GAP), 4);
        x.tell(1, Platehall.SCRAPPED, 0, 119);
        Checks.due("gone", x.ofVehicle(1, GAP), 2);
    }

    private static void gapOfManySpans() {
        Platehall x = new Platehall();
        x.vehicle(1, 0, 0);
        x.tell(0, Platehall.ON, 0, 0);
        for (int i = 0; i < 150; i++) {
            x.insure(0, i * 3);
            x.pass(3);
        }
        Checks.due("two days of three", x.ofVehicle(0, GAP), 301);
        x.tell(0, Platehall.OFF, 0, 10);
        x.tell(0, Platehall.ON, 0, 12);
        Checks.due("two days fewer", x.ofVehicle(0, GAP), 299);
    }

    private static void ofVehicleRefused() {
        Platehall x = some();
        Checks.due("stamped", x.ofVehicle(0, STAMPED), 15);
        Checks.due("stamped", x.ofVehicle(1, STAMPED), 104);
        Checks.due("clones without sightings", x.ofVehicle(0, CLONES), 0);
        for (int what : new int[] {-1, 5, Integer.MIN_VALUE, Integer.MAX_VALUE}) {
            Checks.refuses("ofVehicle(0, " + what + ")", Checks.ARGUMENT, TestsAndInsuranceTest::some,
                    p -> p.ofVehicle(0, what));
        }
        Checks.refuses("ofVehicle(2, 0)", Checks.INDEX, TestsAndInsuranceTest::some, p -> p.ofVehicle(2, 0));
        Checks.refuses("ofVehicle(-1, 9)", Checks.INDEX, TestsAndInsuranceTest::some, p -> p.ofVehicle(-1, 9));
    }
}
