/** The bounds that the document names of tests, mileage and insurance: Terms, and promises 18 to 20. */
public final class TestsBoundsTest {
    private static final int STAMPED = 0, TESTED = 1, TURNED = 2, GAP = 3, CLONES = 4;
    private static final int GOOD = 0, SLIGHT = 1, DANGEROUS = 2;
    private static final int BUILT = 40, TESTED_ON = 60, TODAY = 100;
    private static final int[] NO_VEHICLES = {-1, 2, 12, Integer.MIN_VALUE, Integer.MAX_VALUE};

    /** Day 100; a vehicle built on day 40, on the road since 50, with a test of day 60; another one of day 0. */
    private static final Made SOME = new Made(TestsBoundsTest::some);

    public static void main(String[] args) {
        daysOfTests();
        testedFromBeingBuilt();
        testedFromATest();
        endedByATest();
        mileage();
        insuredUntil();
        toldAnew();
        gap();
        gapOfNotInsured();
        test();
        twentyTests();
        insure();
        ofVehicle();
        Checks.end();
    }

    private static Platehall some() {
        Platehall x = new Platehall();
        x.pass(TODAY);
        x.vehicle(1, BUILT, 0);
        x.vehicle(10, 0, 0);
        x.tell(0, Platehall.ON, 0, 50);
        x.test(0, TESTED_ON, GOOD, 500);
        return x;
    }

    private static Made insured(int until) {
        return new Made(() -> {
            Platehall x = some();
            x.insure(0, until);
            return x;
        });
    }

    private static void daysOfTests() {
        Checks.says("A test is told for a day, from the latest test on, to today, with a grade, 0 good, 1 slight, 2 "
                + "dangerous, and a mileage.");
        SOME.answers("on the day of the latest test", 1120, x -> x.test(0, TESTED_ON, GOOD, 500));
        SOME.refuses("the day ahead of it", Checks.ARGUMENT, x -> x.test(0, TESTED_ON - 1, GOOD, 500));
        SOME.answers("today", 1120, x -> x.test(0, TODAY, GOOD, 500));
        SOME.refuses("tomorrow", Checks.ARGUMENT, x -> x.test(0, TODAY + 1, GOOD, 500));
        SOME.answers("the first of another vehicle, ahead of that", 0, x -> x.test(1, 0, DANGEROUS, 0));
        SOME.refuses("ahead of day 0", Checks.ARGUMENT, x -> x.test(1, -1, DANGEROUS, 0));
        Platehall x = some();
        x.test(0, 80, GOOD, 0);
        Checks.due("ahead of the latest one", Checks.thrown(x, p -> p.test(0, 79, GOOD, 0)),
                "IllegalArgumentException");
        Checks.due("on its day", x.test(0, 80, DANGEROUS, 0), 80);
        Checks.due("the day behind it", x.test(0, 81, DANGEROUS, 0), 80);
        Checks.due("ahead of that", Checks.thrown(x, p -> p.test(0, 80, GOOD, 0)), "IllegalArgumentException");
        x.pass(1);
        Checks.due("the new day", x.test(0, TODAY + 1, DANGEROUS, 0), 80);
    }

    private static void testedFromBeingBuilt() {
        Checks.says("A vehicle is tested until 1080 days behind being built, and from a test of the grade 0 or 1 on "
                + "until 360 days behind that, if that is later; a test of the grade 2 ends it on its day, if it was "
                + "longer.");
        for (int built : new int[] {0, 1, 99, TODAY}) {
            int day = built;
            SOME.answers("built on day " + built, built + 1080, x -> x.ofVehicle(x.vehicle(100, day, 0), TESTED));
        }
        Platehall last = new Platehall();
        Checks.passTo(last, 0, 20000);
        last.vehicle(1, 20000, 0);
        Checks.due("built on the last day", last.ofVehicle(0, TESTED), 21080);
    }

    /** The day until which a vehicle of the first day is tested, by tests of some days, grade by grade. */
    private static void tested(String of, int want, int... daysAndGrades) {
        Platehall x = new Platehall();
        Checks.passTo(x, 0, 2000);
        x.vehicle(1, 0, 0);
        int answer = 1080;
        for (int i = 0; i < daysAndGrades.length; i += 2) {
            answer = x.test(0, daysAndGrades[i], daysAndGrades[i + 1], 0);
        }
        Checks.due(of, answer, want);
        Checks.due(of + ": ofVehicle(0, 1)", x.ofVehicle(0, TESTED), want);
    }

    private static void testedFromATest() {
        for (int grade : new int[] {GOOD, SLIGHT}) {
            tested("a test on day 0", 1080, 0, grade);
            tested("359 days behind it is earlier", 1080, 719, grade);
            tested("just as long", 1080, 720, grade);
            tested("a day longer", 1081, 721, grade);
            tested("on the day until which it was tested", 1440, 1080, grade);
            tested("long behind it", 2360, 2000, grade);
            tested("behind another one", 1500, 1000, grade, 1140, GOOD);
            tested("on the day of another one", 1360, 1000, grade, 1000, SLIGHT);
        }
    }

    private static void endedByATest() {
        tested("on day 0", 0, 0, DANGEROUS);
        tested("on day 1", 1, 1, DANGEROUS);
        tested("the day ahead of its end", 1079, 1079, DANGEROUS);
        tested("on the day of its end", 1080, 1080, DANGEROUS);
        tested("the day behind its end", 1080, 1081, DANGEROUS);
        tested("long behind its end", 1080, 2000, DANGEROUS);
        tested("behind one that made it longer", 1200, 1000, GOOD, 1200, DANGEROUS);
        tested("two of them", 500, 500, DANGEROUS, 600, DANGEROUS);
        tested("a good one behind it", 860, 500, DANGEROUS, 500, GOOD);
        tested("a slight one behind it", 861, 500, DANGEROUS, 501, SLIGHT);
        tested("and ended once more", 700, 500, DANGEROUS, 500, GOOD, 700, DANGEROUS);
    }

    private static void mileage() {
        Checks.says("The mileage is turned back, as often as that of a test is less than that of the one ahead of it.");
        int[] miles = {501, 501, 500, 501, 0, 0, 10000000, 9999999, 10000000, 1};
        int[] turned = {0, 0, 1, 1, 2, 2, 2, 3, 3, 4};
        for (int grade = GOOD; grade <= DANGEROUS; grade++) {
            Platehall x = some();
            Checks.due("by one test", x.ofVehicle(0, TURNED), 0);
            Checks.due("without a test", x.ofVehicle(1, TURNED), 0);
            for (int i = 0; i < miles.length; i++) {
                x.test(0, TESTED_ON + i / 2, grade, miles[i]);
                Checks.due("behind " + miles[i], x.ofVehicle(0, TURNED), turned[i]);
            }
            x.test(1, 0, grade, 0);
            Checks.due("a first one of 0", x.ofVehicle(1, TURNED), 0);
            x.test(1, 0, grade, 0);
            Checks.due("a second one of 0", x.ofVehicle(1, TURNED), 0);
            Checks.due("that of the other one", x.ofVehicle(0, TURNED), 4);
        }
    }

    private static void insuredUntil() {
        Checks.says("It is insured from today to a day, as told, that day with it; told anew in place of what is told "
                + "for today and later.");
        insured(TODAY).answers("today, to today", true, x -> x.insure(0, TODAY));
        insured(TODAY).answers("tomorrow, to today", false, x -> x.insure(0, x.pass(1)));
        insured(TODAY + 1).answers("tomorrow, to that", true, x -> x.insure(0, x.pass(1)));
        insured(TODAY + 1).answers("the day behind it", false, x -> x.insure(0, x.pass(2)));
        insured(TODAY + 400).answers("on that day", true, x -> x.insure(0, x.pass(400)));
        insured(TODAY + 399).answers("the day behind it", false, x -> x.insure(0, x.pass(400)));
        insured(20000).answers("the last day of all", true, x -> {
            Checks.passTo(x, TODAY, 20000);
            return x.insure(0, 20000);
        });
        insured(19999).answers("ended the day ahead of it", false, x -> {
            Checks.passTo(x, TODAY, 20000);
            return x.insure(0, 20000);
        });
        insured(20000).answers("not ahead of today", 50, x -> x.ofVehicle(0, GAP));
        insured(20000).answers("not another one", false, x -> x.insure(1, 20000));
    }

    private static void toldAnew() {
        insured(TODAY + 9).answers("shorter", false, x -> {
            x.insure(0, TODAY + 4);
            return x.insure(0, x.pass(5));
        });
        insured(TODAY + 4).answers("longer", true, x -> {
            x.insure(0, TODAY + 5);
            return x.insure(0, x.pass(5));
        });
        insured(TODAY + 9).answers("ended", false, x -> {
            x.insure(0, Platehall.NONE);
            return x.insure(0, x.pass(5));
        });
        insured(TODAY + 9).answers("ended, today with it", false, x -> {
            x.insure(0, Platehall.NONE);
            return x.insure(0, TODAY);
        });
        insured(TODAY + 9).answers("ended and told once more", true, x -> {
            x.insure(0, Platehall.NONE);
            x.insure(0, TODAY + 5);
            return x.insure(0, x.pass(5));
        });
        insured(TODAY + 9).answers("what was ahead of today stays", 50, x -> {
            x.pass(5);
            x.insure(0, TODAY + 5);
            return x.ofVehicle(0, GAP);
        });
        insured(TODAY + 9).answers("ended on a later day", 51, x -> {
            x.pass(5);
            x.insure(0, Platehall.NONE);
            return x.ofVehicle(0, GAP);
        });
        insured(TODAY + 2).answers("a day between is not insured", 51, x -> {
            x.pass(4);
            x.insure(0, TODAY + 9);
            x.pass(1);
            return x.ofVehicle(0, GAP);
        });
    }

    private static void gap() {
        Checks.says("Its gap is how many days, up to today, that day with it, it was in the state ROAD and not "
                + "insured.");
        SOME.answers("from day 50 to 100", 51, x -> x.ofVehicle(0, GAP));
        SOME.answers("a day more", 52, x -> {
            x.pass(1);
            return x.ofVehicle(0, GAP);
        });
        SOME.answers("never on the road", 0, x -> x.ofVehicle(1, GAP));
        for (int day : new int[] {0, 1, TODAY - 1, TODAY}) {
            SOME.answers("on since " + day, TODAY - day + 1, x -> {
                x.tell(1, Platehall.ON, 0, day);
                return x.ofVehicle(1, GAP);
            });
        }
        int[][] ends = {{Platehall.OFF, 60, 10}, {Platehall.OFF, 50, 0}, {Platehall.OFF, 51, 1},
            {Platehall.OFF, TODAY, 50}, {Platehall.STOLEN, 70, 20}, {Platehall.SCRAPPED, 80, 30},
            {Platehall.FOUND, 60, 51}, {Platehall.CLASS, 60, 51}, {Platehall.OFF, 49, 51}};
        for (int[] end : ends) {
            SOME.answers("kind " + end[0] + " on day " + end[1], end[2], x -> {
                x.tell(0, end[0], 0, end[1]);
                return x.ofVehicle(0, GAP);
            });
        }
        SOME.answers("missing from 60 to 69", 41, x -> {
            x.tell(0, Platehall.STOLEN, 0, 60);
            x.tell(0, Platehall.FOUND, 0, 70);
            return x.ofVehicle(0, GAP);
        });
        SOME.answers("off and on of one day", 51, x -> {
            x.tell(0, Platehall.OFF, 0, 60);
            x.tell(0, Platehall.ON, 0, 60);
            return x.ofVehicle(0, GAP);
        });
    }

    private static void gapOfNotInsured() {
        insured(TODAY).answers("today is insured", 50, x -> x.ofVehicle(0, GAP));
        insured(TODAY).answers("tomorrow is not", 51, x -> {
            x.pass(1);
            return x.ofVehicle(0, GAP);
        });
        insured(TODAY + 1).answers("tomorrow is", 50, x -> {
            x.pass(1);
            return x.ofVehicle(0, GAP);
        });
        insured(TODAY + 1).answers("two days on it is not", 51, x -> {
            x.pass(2);
            return x.ofVehicle(0, GAP);
        });
        insured(Platehall.NONE).answers("never insured", 51, x -> x.ofVehicle(0, GAP));
        insured(TODAY + 50).answers("in a garage and insured", 50, x -> {
            x.tell(0, Platehall.OFF, 0, TODAY);
            x.pass(10);
            return x.ofVehicle(0, GAP);
        });
        insured(TODAY + 5).answers("off over the end of the insurance", 52, x -> {
            x.pass(10);
            x.tell(0, Platehall.OFF, 0, TODAY + 3);
            x.tell(0, Platehall.ON, 0, TODAY + 9);
            return x.ofVehicle(0, GAP);
        });
        Platehall all = new Platehall();
        all.vehicle(1, 0, 0);
        all.tell(0, Platehall.ON, 0, 0);
        Checks.passTo(all, 0, 20000);
        Checks.due("all days that there are", all.ofVehicle(0, GAP), 20001);
        all.insure(0, 20000);
        Checks.due("but one", all.ofVehicle(0, GAP), 20000);
    }

    private static void test() {
        Checks.promise(18, "Tells a test.");
        SOME.answers("it counts", 1, x -> {
            x.test(0, TODAY, GOOD, 499);
            return x.ofVehicle(0, TURNED);
        });
        Checks.promise(18, "vehicle: its number");
        SOME.answers("the first vehicle", TODAY, x -> x.test(0, TODAY, DANGEROUS, 0));
        SOME.answers("the last vehicle", TODAY, x -> x.test(1, TODAY, DANGEROUS, 0));
        Checks.promise(18, "day: the day built, and that of the latest test, to today");
        Made untested = new Made(() -> {
            Platehall x = some();
            x.vehicle(100, BUILT, 0);
            return x;
        });
        untested.answers("the day built", BUILT, x -> x.test(2, BUILT, DANGEROUS, 0));
        untested.refuses("the day ahead of it", Checks.ARGUMENT, x -> x.test(2, BUILT - 1, DANGEROUS, 0));
        untested.answers("today", TODAY, x -> x.test(2, TODAY, DANGEROUS, 0));
        untested.refuses("tomorrow", Checks.ARGUMENT, x -> x.test(2, TODAY + 1, DANGEROUS, 0));
        SOME.answers("that of the latest test", TESTED_ON, x -> x.test(0, TESTED_ON, DANGEROUS, 0));
        SOME.refuses("the day ahead of that", Checks.ARGUMENT, x -> x.test(0, TESTED_ON - 1, DANGEROUS, 0));
        Checks.promise(18, "grade: 0 to 2");
        SOME.answers("a grade 0", 1120, x -> x.test(0, TODAY, 0, 0));
        SOME.answers("a grade 1", 1120, x -> x.test(0, TODAY, 1, 0));
        SOME.answers("a grade 2", TODAY, x -> x.test(0, TODAY, 2, 0));
        Checks.promise(18, "mileage: 0 to 10000000");
        SOME.answers("a mileage of 0", 1120, x -> x.test(0, TODAY, GOOD, 0));
        SOME.answers("a mileage of 10000000", 1120, x -> x.test(0, TODAY, GOOD, 10000000));
        Checks.promise(18, "Returns the day until which it is tested then.");
        SOME.answers("one that changes nothing", 1120, x -> x.test(0, TODAY, SLIGHT, 0));
        SOME.answers("one that ends it", 77, x -> x.test(0, 77, DANGEROUS, 0));
        Checks.promise(18, "Throws IndexOutOfBoundsException if there is no such vehicle");
        for (int vehicle : NO_VEHICLES) {
            SOME.refuses("the vehicle " + vehicle, Checks.INDEX, x -> x.test(vehicle, TODAY, GOOD, 0));
            SOME.refuses("and all else", Checks.INDEX, x -> x.test(vehicle, TODAY + 1, 3, -1));
        }
        Checks.promise(18, "Throws IllegalArgumentException if day, grade or mileage is out of range");
        for (int far : new int[] {-1, Integer.MIN_VALUE, Integer.MAX_VALUE}) {
            SOME.refuses("the day " + far, Checks.ARGUMENT, x -> x.test(0, far, GOOD, 0));
            SOME.refuses("the grade " + far, Checks.ARGUMENT, x -> x.test(0, TODAY, far, 0));
            SOME.refuses("the mileage " + far, Checks.ARGUMENT, x -> x.test(0, TODAY, GOOD, far));
        }
        SOME.refuses("a grade 3", Checks.ARGUMENT, x -> x.test(0, TODAY, 3, 0));
        SOME.refuses("a mileage of 10000001", Checks.ARGUMENT, x -> x.test(0, TODAY, GOOD, 10000001));
    }

    private static Made told(int tests) {
        return new Made(() -> {
            Platehall x = some();
            for (int i = 1; i < tests; i++) {
                x.test(0, TESTED_ON + i, i % 3, 500 - i);
            }
            return x;
        });
    }

    private static void twentyTests() {
        Checks.promise(18, "Throws IllegalStateException if there are 20");
        told(19).answers("the 20th", TODAY, x -> x.test(0, TODAY, DANGEROUS, 0));
        told(19).answers("the 20th on the day of the 19th", TESTED_ON + 18,
                x -> x.test(0, TESTED_ON + 18, DANGEROUS, 0));
        for (int grade = GOOD; grade <= DANGEROUS; grade++) {
            int more = grade;
            told(20).refuses("a 21st of grade " + grade, Checks.STATE, x -> x.test(0, TODAY, more, 0));
            told(20).refuses("a 21st tomorrow", Checks.ARGUMENT, x -> x.test(0, TODAY + 1, more, 0));
        }
        told(20).refuses("a 21st of grade 3", Checks.ARGUMENT, x -> x.test(0, TODAY, 3, 0));
        told(20).refuses("a 21st of no mileage", Checks.ARGUMENT, x -> x.test(0, TODAY, GOOD, -1));
        told(20).refuses("a 21st ahead of the 20th", Checks.ARGUMENT, x -> x.test(0, TESTED_ON, GOOD, 0));
        told(20).refuses("of no vehicle", Checks.INDEX, x -> x.test(2, TODAY, GOOD, 0));
        told(20).answers("the first of another vehicle", 0, x -> x.test(1, 0, DANGEROUS, 0));
        Platehall x = told(20).one();
        for (int i = 0; i < 20; i++) {
            Checks.due("test " + i + " of another vehicle", x.test(1, i, DANGEROUS, i % 2), 0);
        }
        Checks.due("a 21st of another", Checks.thrown(x, p -> p.test(1, TODAY, GOOD, 0)), "IllegalStateException");
        Checks.due("turned back by all of the other", x.ofVehicle(1, TURNED), 9);
        Checks.due("turned back by all", x.ofVehicle(0, TURNED), 19);
    }

    private static void insure() {
        Checks.promise(19, "Insures a vehicle.");
        insured(TODAY).answers("it counts", 50, x -> x.ofVehicle(0, GAP));
        Checks.promise(19, "vehicle: its number");
        SOME.answers("the first vehicle", false, x -> x.insure(0, TODAY));
        SOME.answers("the last vehicle", false, x -> x.insure(1, TODAY));
        Checks.promise(19, "until: today to 20000, or NONE to end it: today is not insured then");
        SOME.answers("until 20000", false, x -> x.insure(0, 20000));
        SOME.answers("ended without any", false, x -> x.insure(0, Platehall.NONE));
        insured(20000).answers("ended: today is not insured then", 51, x -> {
            x.insure(0, Platehall.NONE);
            return x.ofVehicle(0, GAP);
        });
        Checks.promise(19, "Returns whether it was insured today.");
        SOME.answers("at first", false, x -> x.insure(0, TODAY));
        insured(TODAY).answers("until today", true, x -> x.insure(0, Platehall.NONE));
        insured(TODAY).answers("of another one", false, x -> x.insure(1, Platehall.NONE));
        insured(Platehall.NONE).answers("ended", false, x -> x.insure(0, TODAY));
        insured(TODAY).answers("until yesterday", false, x -> {
            x.pass(1);
            return x.insure(0, Platehall.NONE);
        });
        Checks.promise(19, "Throws IndexOutOfBoundsException if there is no such vehicle");
        for (int vehicle : NO_VEHICLES) {
            SOME.refuses("the vehicle " + vehicle, Checks.INDEX, x -> x.insure(vehicle, TODAY));
            SOME.refuses("and yesterday", Checks.INDEX, x -> x.insure(vehicle, TODAY - 1));
            SOME.refuses("and NONE", Checks.INDEX, x -> x.insure(vehicle, Platehall.NONE));
        }
        Checks.promise(19, "Throws IllegalArgumentException if until is out of range");
        for (int until : new int[] {TODAY - 1, 0, -2, 20001, Integer.MIN_VALUE, Integer.MAX_VALUE}) {
            SOME.refuses("until " + until, Checks.ARGUMENT, x -> x.insure(0, until));
            insured(TODAY + 5).refuses("until " + until, Checks.ARGUMENT, x -> x.insure(0, until));
        }
    }

    private static void ofVehicle() {
        Checks.promise(20, "Tells something of a vehicle.");
        SOME.answers("its gap", 51, x -> x.ofVehicle(0, GAP));
        Checks.promise(20, "vehicle: its number");
        SOME.answers("the first vehicle", 15, x -> x.ofVehicle(0, STAMPED));
        SOME.answers("the last vehicle", 104, x -> x.ofVehicle(1, STAMPED));
        Checks.promise(20, "what: 0 its stamped number; 1 until which day it is tested; 2 how often its mileage is "
                + "turned back; 3 its gap; 4 how many clones its sightings show");
        int[] wants = {15, 1120, 1, 51, 1};
        Made much = new Made(() -> {
            Platehall x = some();
            x.test(0, TODAY, GOOD, 499);
            x.allot(0);
            Checks.sightOf(x, "AA00", 0, 0);
            Checks.sightOf(x, "AA00", 1, 9);
            return x;
        });
        for (int what = STAMPED; what <= CLONES; what++) {
            int part = what;
            much.answers("ofVehicle(0, " + what + ")", wants[what], x -> x.ofVehicle(0, part));
        }
        Checks.promise(20, "Returns the number.");
        much.answers("asked twice", 51, x -> {
            x.ofVehicle(0, GAP);
            return x.ofVehicle(0, GAP);
        });
        Checks.promise(20, "Throws IndexOutOfBoundsException if there is no such vehicle");
        for (int vehicle : NO_VEHICLES) {
            for (int what = -1; what <= 5; what++) {
                int part = what;
                SOME.refuses("ofVehicle(" + vehicle + ", " + what + ")", Checks.INDEX, x -> x.ofVehicle(vehicle, part));
            }
        }
        Checks.promise(20, "Throws IllegalArgumentException if what is out of range");
        for (int what : new int[] {-1, 5, Integer.MIN_VALUE, Integer.MAX_VALUE}) {
            SOME.refuses("ofVehicle(0, " + what + ")", Checks.ARGUMENT, x -> x.ofVehicle(0, what));
        }
    }
}
