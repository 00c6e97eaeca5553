/** The bounds that the document names of events and what they make of a vehicle: Terms, and promises 8 to 10. */
public final class EventsBoundsTest {
    private static final int STATE = 0, KEPT_BY = 1, OWNED_BY = 2, CLASS_OF_TAX = 3;
    private static final int BUILT = 10, TODAY = 50;
    private static final String STATES = "Its state is UNKNOWN without any of ON, OFF, STOLEN, FOUND and SCRAPPED; "
            + "ROAD behind ON, GARAGE behind OFF, MISSING behind STOLEN, GONE behind SCRAPPED, whatever comes behind "
            + "that; behind FOUND, if it is MISSING, what it was ahead of the STOLEN that made it so; otherwise FOUND "
            + "changes nothing.";
    private static final int[] FAR = {Integer.MIN_VALUE, Integer.MAX_VALUE};

    /** Day 50; a vehicle built on day 10, of class 2, another one of the first day; two people. */
    private static final Made SOME = new Made(EventsBoundsTest::some);

    public static void main(String[] args) {
        daysOfEvents();
        whatEachKindIsWith();
        oneDay();
        thirty();
        upToADay();
        latest();
        statesBehind();
        foundAndMissing();
        goneForGood();
        tell();
        tellRefused();
        on();
        onRefused();
        Checks.end();
    }

    private static Platehall some() {
        Platehall x = new Platehall();
        x.pass(TODAY);
        x.person();
        x.person();
        x.vehicle(1, BUILT, 2);
        x.vehicle(10, 0, 0);
        return x;
    }

    private static void is(Platehall x, int day, int what, int want) {
        Checks.due("on(0, " + day + ", " + what + ")", x.on(0, day, what), want);
        Checks.due("onAnew(0, " + day + ", " + what + ")", x.onAnew(0, day, what), want);
    }

    /** What is right for a kind. */
    private static int fit(int kind) {
        return kind == Platehall.KEEPER || kind == Platehall.OWNER || kind == Platehall.CLASS ? 1 : 0;
    }

    private static void daysOfEvents() {
        Checks.says("Events of a vehicle are told for a day, from the day it was built to today, in whatever order: "
                + "KEEPER and OWNER, with a person; ON, from which it is on the road; OFF; STOLEN; FOUND; SCRAPPED; "
                + "CLASS, with a class.");
        for (int kind = Platehall.KEEPER; kind <= Platehall.CLASS; kind++) {
            int told = kind;
            SOME.answers(kind + " on the day built", 0, x -> x.tell(0, told, fit(told), BUILT));
            SOME.answers(kind + " today", 0, x -> x.tell(0, told, fit(told), TODAY));
            SOME.refuses(kind + " a day ahead of it", Checks.ARGUMENT, x -> x.tell(0, told, fit(told), BUILT - 1));
            SOME.refuses(kind + " tomorrow", Checks.ARGUMENT, x -> x.tell(0, told, fit(told), TODAY + 1));
            SOME.answers(kind + " on day 0", 0, x -> x.tell(1, told, fit(told), 0));
            SOME.refuses(kind + " on day -1", Checks.ARGUMENT, x -> x.tell(1, told, fit(told), -1));
        }
        int[] days = {30, 10, 50, 20, 40, 31, 29, 11, 49};
        int[] later = {0, 1, 0, 2, 1, 2, 4, 6, 1};
        Platehall x = some();
        for (int i = 0; i < days.length; i++) {
            Checks.due("behind others, of day " + days[i], x.tell(0, Platehall.CLASS, i % 4, days[i]), later[i]);
        }
        for (int i = 0; i < days.length; i++) {
            is(x, days[i], CLASS_OF_TAX, i % 4);
        }
    }

    private static void whatEachKindIsWith() {
        for (int kind : new int[] {Platehall.KEEPER, Platehall.OWNER}) {
            int part = kind == Platehall.KEEPER ? KEPT_BY : OWNED_BY;
            for (int person = 0; person < 2; person++) {
                int who = person;
                SOME.answers("kind " + kind + " with " + who, who, x -> {
                    x.tell(0, kind, who, TODAY);
                    return x.on(0, TODAY, part);
                });
            }
            SOME.refuses("kind " + kind + " with -1", Checks.INDEX, x -> x.tell(0, kind, -1, TODAY));
            SOME.refuses("kind " + kind + " with 2", Checks.INDEX, x -> x.tell(0, kind, 2, TODAY));
            for (int who : FAR) {
                SOME.refuses("kind " + kind + " with " + who, Checks.INDEX, x -> x.tell(0, kind, who, TODAY));
            }
        }
        for (int its = 0; its <= 3; its++) {
            int told = its;
            SOME.answers("a class " + its, told, x -> {
                x.tell(0, Platehall.CLASS, told, TODAY);
                return x.on(0, TODAY, CLASS_OF_TAX);
            });
        }
        SOME.refuses("a class -1", Checks.ARGUMENT, x -> x.tell(0, Platehall.CLASS, -1, TODAY));
        SOME.refuses("a class 4", Checks.ARGUMENT, x -> x.tell(0, Platehall.CLASS, 4, TODAY));
        for (int kind = Platehall.ON; kind <= Platehall.SCRAPPED; kind++) {
            int told = kind;
            SOME.answers("kind " + kind + " with 0", 0, x -> x.tell(0, told, 0, TODAY));
            SOME.refuses("kind " + kind + " with 1", Checks.ARGUMENT, x -> x.tell(0, told, 1, TODAY));
            SOME.refuses("kind " + kind + " with -1", Checks.ARGUMENT, x -> x.tell(0, told, -1, TODAY));
        }
    }

    private static void oneDay() {
        Checks.says("Of one day those count in the order in which they were told.");
        Platehall x = some();
        x.tell(0, Platehall.ON, 0, 20);
        x.tell(0, Platehall.OFF, 0, 20);
        is(x, 20, STATE, Platehall.GARAGE);
        x.tell(0, Platehall.ON, 0, 21);
        x.tell(0, Platehall.ON, 0, 20);
        is(x, 20, STATE, Platehall.ROAD);
        x.tell(0, Platehall.KEEPER, 1, 20);
        x.tell(0, Platehall.KEEPER, 0, 20);
        is(x, 20, KEPT_BY, 0);
        x.tell(0, Platehall.OWNER, 0, 20);
        x.tell(0, Platehall.OWNER, 1, 20);
        is(x, 20, OWNED_BY, 1);
        x.tell(0, Platehall.CLASS, 3, 20);
        x.tell(0, Platehall.CLASS, 1, 20);
        is(x, 20, CLASS_OF_TAX, 1);
        x.tell(0, Platehall.FOUND, 0, 22);
        x.tell(0, Platehall.STOLEN, 0, 22);
        is(x, 22, STATE, Platehall.MISSING);
        x.tell(0, Platehall.STOLEN, 0, 23);
        x.tell(0, Platehall.FOUND, 0, 23);
        is(x, 23, STATE, Platehall.ROAD);
        x.tell(0, Platehall.STOLEN, 0, BUILT);
        x.tell(0, Platehall.FOUND, 0, BUILT);
        is(x, BUILT, STATE, Platehall.UNKNOWN);
        is(x, 23, STATE, Platehall.ROAD);
    }

    private static Made told(int events) {
        return new Made(() -> {
            Platehall x = some();
            for (int i = 0; i < events; i++) {
                x.tell(0, i % 7 == 6 ? Platehall.CLASS : i % 7, i % 7 < 2 ? 1 : 0, BUILT + i);
            }
            return x;
        });
    }

    private static void thirty() {
        Checks.says("At most 30 are told of a vehicle.");
        told(29).answers("the 30th", 0, x -> x.tell(0, Platehall.OFF, 0, TODAY));
        told(29).answers("the 30th, ahead of all", 28, x -> x.tell(0, Platehall.OFF, 0, BUILT));
        for (int kind = Platehall.KEEPER; kind <= Platehall.CLASS; kind++) {
            int more = kind;
            told(30).refuses("a 31st of kind " + kind, Checks.STATE, x -> x.tell(0, more, fit(more), TODAY));
            told(30).refuses("a 31st of kind " + kind, Checks.STATE, x -> x.tell(0, more, fit(more), BUILT));
        }
        told(30).answers("the first of another vehicle", 0, x -> x.tell(1, Platehall.ON, 0, TODAY));
        Platehall x = told(30).one();
        for (int i = 0; i < 30; i++) {
            Checks.due("event " + i + " of another vehicle", x.tell(1, Platehall.KEEPER, i % 2, TODAY - i), i);
        }
        Checks.due("a 31st of another", Checks.thrown(x, p -> p.tell(1, Platehall.KEEPER, 0, 0)),
                "IllegalStateException");
        for (int i = 0; i < 30; i++) {
            Checks.due("of another, on day " + (TODAY - i), x.on(1, TODAY - i, KEPT_BY), i % 2);
        }
    }

    private static void upToADay() {
        Checks.says("On a day all events up to it, that day with it, have taken place, none ahead of the day it was "
                + "built.");
        Platehall x = some();
        x.tell(0, Platehall.KEEPER, 0, 30);
        x.tell(0, Platehall.ON, 0, 30);
        x.tell(0, Platehall.OWNER, 1, BUILT);
        x.tell(0, Platehall.CLASS, 0, BUILT);
        x.tell(0, Platehall.OFF, 0, BUILT);
        is(x, 29, KEPT_BY, Platehall.NONE);
        is(x, 30, KEPT_BY, 0);
        is(x, 31, KEPT_BY, 0);
        is(x, 29, STATE, Platehall.GARAGE);
        is(x, 30, STATE, Platehall.ROAD);
        is(x, TODAY, STATE, Platehall.ROAD);
        for (int day = 0; day < BUILT; day++) {
            is(x, day, STATE, Platehall.UNKNOWN);
            is(x, day, OWNED_BY, Platehall.NONE);
            is(x, day, CLASS_OF_TAX, 2);
        }
        is(x, BUILT, STATE, Platehall.GARAGE);
        is(x, BUILT, OWNED_BY, 1);
        is(x, BUILT, CLASS_OF_TAX, 0);
        x.tell(0, Platehall.KEEPER, 1, TODAY);
        is(x, TODAY - 1, KEPT_BY, 0);
        is(x, TODAY, KEPT_BY, 1);
        x.pass(1);
        is(x, TODAY + 1, KEPT_BY, 1);
    }

    private static void latest() {
        Checks.says("Its keeper, owner and class are those of the latest such event; none, none, and that at first, "
                + "without.");
        Platehall x = some();
        is(x, TODAY, KEPT_BY, Platehall.NONE);
        is(x, TODAY, OWNED_BY, Platehall.NONE);
        is(x, TODAY, CLASS_OF_TAX, 2);
        x.tell(0, Platehall.KEEPER, 1, 40);
        x.tell(0, Platehall.KEEPER, 0, 39);
        is(x, TODAY, KEPT_BY, 1);
        is(x, 39, KEPT_BY, 0);
        is(x, 38, KEPT_BY, Platehall.NONE);
        is(x, TODAY, OWNED_BY, Platehall.NONE);
        x.tell(0, Platehall.OWNER, 0, 40);
        x.tell(0, Platehall.OWNER, 1, 39);
        is(x, TODAY, OWNED_BY, 0);
        is(x, TODAY, KEPT_BY, 1);
        is(x, 39, OWNED_BY, 1);
        x.tell(0, Platehall.CLASS, 0, 40);
        x.tell(0, Platehall.CLASS, 3, 39);
        is(x, TODAY, CLASS_OF_TAX, 0);
        is(x, 39, CLASS_OF_TAX, 3);
        is(x, 38, CLASS_OF_TAX, 2);
        x.tell(0, Platehall.SCRAPPED, 0, 40);
        x.tell(0, Platehall.STOLEN, 0, 38);
        is(x, TODAY, KEPT_BY, 1);
        is(x, TODAY, OWNED_BY, 0);
        is(x, TODAY, CLASS_OF_TAX, 0);
    }

    /** The states behind events of days one behind the other, which are told from the last one to the first. */
    private static void run(int[] kinds, int[] states) {
        Platehall x = some();
        for (int i = kinds.length - 1; i >= 0; i--) {
            x.tell(0, kinds[i], 0, BUILT + i);
        }
        Platehall sameDay = some();
        for (int kind : kinds) {
            sameDay.tell(0, kind, 0, TODAY);
        }
        for (int i = 0; i < kinds.length; i++) {
            is(x, BUILT + i, STATE, states[i]);
        }
        is(sameDay, TODAY, STATE, states[states.length - 1]);
        is(sameDay, TODAY - 1, STATE, Platehall.UNKNOWN);
    }

    private static void statesBehind() {
        Checks.says(STATES);
        Platehall x = some();
        is(x, 0, STATE, Platehall.UNKNOWN);
        is(x, TODAY, STATE, Platehall.UNKNOWN);
        x.tell(0, Platehall.KEEPER, 0, 20);
        x.tell(0, Platehall.OWNER, 0, 20);
        x.tell(0, Platehall.CLASS, 0, 20);
        is(x, TODAY, STATE, Platehall.UNKNOWN);
        run(new int[] {Platehall.ON}, new int[] {Platehall.ROAD});
        run(new int[] {Platehall.OFF}, new int[] {Platehall.GARAGE});
        run(new int[] {Platehall.STOLEN}, new int[] {Platehall.MISSING});
        run(new int[] {Platehall.FOUND}, new int[] {Platehall.UNKNOWN});
        run(new int[] {Platehall.SCRAPPED}, new int[] {Platehall.GONE});
        run(new int[] {Platehall.ON, Platehall.OFF}, new int[] {Platehall.ROAD, Platehall.GARAGE});
        run(new int[] {Platehall.OFF, Platehall.ON}, new int[] {Platehall.GARAGE, Platehall.ROAD});
        run(new int[] {Platehall.ON, Platehall.ON}, new int[] {Platehall.ROAD, Platehall.ROAD});
        run(new int[] {Platehall.OFF, Platehall.OFF}, new int[] {Platehall.GARAGE, Platehall.GARAGE});
    }

    private static void foundAndMissing() {
        Checks.says(STATES);
        int on = Platehall.ON, off = Platehall.OFF, stolen = Platehall.STOLEN, found = Platehall.FOUND;
        int unknown = Platehall.UNKNOWN, road = Platehall.ROAD, garage = Platehall.GARAGE, missing = Platehall.MISSING;
        run(new int[] {stolen, found}, new int[] {missing, unknown});
        run(new int[] {on, stolen, found}, new int[] {road, missing, road});
        run(new int[] {off, stolen, found}, new int[] {garage, missing, garage});
        run(new int[] {on, found}, new int[] {road, road});
        run(new int[] {off, found}, new int[] {garage, garage});
        run(new int[] {on, stolen, found, found}, new int[] {road, missing, road, road});
        run(new int[] {on, stolen, found, off, found}, new int[] {road, missing, road, garage, garage});
        run(new int[] {on, stolen, found, off, stolen, found},
                new int[] {road, missing, road, garage, missing, garage});
        Checks.says("ON, OFF and STOLEN change nothing, if it is MISSING.");
        run(new int[] {off, stolen, on, found}, new int[] {garage, missing, missing, garage});
        run(new int[] {on, stolen, off, found}, new int[] {road, missing, missing, road});
        run(new int[] {on, stolen, stolen, found}, new int[] {road, missing, missing, road});
        run(new int[] {on, stolen, stolen, found, found}, new int[] {road, missing, missing, road, road});
        run(new int[] {stolen, stolen, on, off, found}, new int[] {missing, missing, missing, missing, unknown});
        run(new int[] {stolen, Platehall.SCRAPPED, found}, new int[] {missing, Platehall.GONE, Platehall.GONE});
        Platehall x = some();
        x.tell(0, stolen, 0, 30);
        x.tell(0, Platehall.KEEPER, 1, 31);
        x.tell(0, Platehall.OWNER, 0, 31);
        x.tell(0, Platehall.CLASS, 3, 31);
        is(x, TODAY, STATE, missing);
        is(x, TODAY, KEPT_BY, 1);
        is(x, TODAY, OWNED_BY, 0);
        is(x, TODAY, CLASS_OF_TAX, 3);
        x.tell(0, found, 0, 40);
        is(x, 40, STATE, unknown);
        x.tell(0, off, 0, 29);
        is(x, 40, STATE, garage);
        x.tell(0, found, 0, 30);
        is(x, 30, STATE, garage);
        x.tell(0, on, 0, 32);
        is(x, 40, STATE, road);
    }

    private static void goneForGood() {
        Checks.says(STATES);
        for (int kind = Platehall.ON; kind <= Platehall.SCRAPPED; kind++) {
            int gone = Platehall.GONE;
            run(new int[] {Platehall.SCRAPPED, kind, Platehall.ON}, new int[] {gone, gone, gone});
        }
        Platehall x = some();
        x.tell(0, Platehall.ON, 0, 40);
        x.tell(0, Platehall.SCRAPPED, 0, 30);
        is(x, 29, STATE, Platehall.UNKNOWN);
        is(x, 30, STATE, Platehall.GONE);
        is(x, 40, STATE, Platehall.GONE);
        x.tell(0, Platehall.KEEPER, 1, 45);
        is(x, 45, KEPT_BY, 1);
    }

    private static void tell() {
        Checks.promise(8, "Tells an event.");
        SOME.answers("it counts", 1, x -> {
            x.tell(0, Platehall.KEEPER, 1, 20);
            return x.on(0, 20, KEPT_BY);
        });
        Checks.promise(8, "vehicle: its number");
        SOME.answers("the first vehicle", 0, x -> x.tell(0, Platehall.ON, 0, 20));
        SOME.answers("the last vehicle", 0, x -> x.tell(1, Platehall.ON, 0, 20));
        SOME.refuses("the vehicle -1", Checks.INDEX, x -> x.tell(-1, Platehall.ON, 0, 20));
        SOME.refuses("the vehicle 2", Checks.INDEX, x -> x.tell(2, Platehall.ON, 0, 20));
        Checks.promise(8, "kind: KEEPER to CLASS");
        for (int what = 0; what <= 1; what++) {
            int with = what;
            for (int kind : new int[] {-1, 8, 9, Integer.MIN_VALUE, Integer.MAX_VALUE}) {
                SOME.refuses("the kind " + kind, Checks.ARGUMENT, x -> x.tell(0, kind, with, 20));
            }
        }
        Checks.promise(8, "what: a person for KEEPER and OWNER, a class for CLASS, otherwise 0");
        SOME.answers("a class that is no person", 0, x -> x.tell(0, Platehall.CLASS, 3, 20));
        SOME.refuses("a person that is no class", Checks.ARGUMENT, x -> x.tell(0, Platehall.ON, 1, 20));
        Checks.promise(8, "day: the day built to today");
        for (int day : new int[] {BUILT - 1, TODAY + 1, 0, -1, Integer.MIN_VALUE, Integer.MAX_VALUE}) {
            SOME.refuses("the day " + day, Checks.ARGUMENT, x -> x.tell(0, Platehall.KEEPER, 0, day));
        }
        Checks.promise(8, "Returns how many events of later days there are by then.");
        Made one = told(1);
        one.answers("a day ahead of one", 1, x -> {
            x.pass(1);
            x.tell(0, Platehall.ON, 0, 40);
            return x.tell(0, Platehall.ON, 0, 39);
        });
        one.answers("of the same day", 0, x -> x.tell(0, Platehall.ON, 0, BUILT));
        one.answers("a day behind it", 0, x -> x.tell(0, Platehall.ON, 0, BUILT + 1));
        told(20).answers("of the day of the fifth", 15, x -> x.tell(0, Platehall.ON, 0, BUILT + 4));
        told(20).answers("those of another vehicle", 0, x -> x.tell(1, Platehall.ON, 0, 0));
    }

    private static void tellRefused() {
        Checks.promise(8, "Throws IndexOutOfBoundsException if there is no such vehicle or person");
        for (int vehicle : new int[] {-1, 2, 12, Integer.MIN_VALUE, Integer.MAX_VALUE}) {
            told(30).refuses("the vehicle " + vehicle, Checks.INDEX, x -> x.tell(vehicle, 8, 4, TODAY + 1));
        }
        for (int kind : new int[] {Platehall.KEEPER, Platehall.OWNER}) {
            told(30).refuses("the person 2, tomorrow", Checks.INDEX, x -> x.tell(0, kind, 2, TODAY + 1));
            told(30).refuses("the person -1, tomorrow", Checks.INDEX, x -> x.tell(0, kind, -1, TODAY + 1));
        }
        Checks.promise(8, "Throws IllegalArgumentException if kind, what or day is out of range");
        told(30).refuses("a kind", Checks.ARGUMENT, x -> x.tell(0, 8, 0, TODAY));
        told(30).refuses("a class", Checks.ARGUMENT, x -> x.tell(0, Platehall.CLASS, 4, TODAY));
        told(30).refuses("what is not 0", Checks.ARGUMENT, x -> x.tell(0, Platehall.FOUND, 1, TODAY));
        told(30).refuses("a day", Checks.ARGUMENT, x -> x.tell(0, Platehall.KEEPER, 0, TODAY + 1));
        Checks.promise(8, "Throws IllegalStateException if 30 were told");
        told(30).refuses("a 31st", Checks.STATE, x -> x.tell(0, Platehall.KEEPER, 0, TODAY));
        told(29).answers("the 30th", 0, x -> x.tell(0, Platehall.KEEPER, 0, TODAY));
    }

    private static void on() {
        Platehall x = told(14).one();
        x.pass(10);
        Checks.promise(9, "Returns what a vehicle is on a day.");
        Checks.due("the keeper on day 17", x.on(0, 17, KEPT_BY), 1);
        Checks.promise(10, "Returns the same, found by going through all events from the first one on.");
        for (int day = 5; day <= TODAY + 5; day++) {
            for (int what = 0; what <= 3; what++) {
                Checks.due("on day " + day + ", " + what, x.onAnew(0, day, what), x.on(0, day, what));
            }
        }
        Checks.promise(10, "Returns as told.");
        Checks.due("an owner", x.onAnew(0, 18, OWNED_BY), 1);
        Checks.promise(9, "Returns the state; the person, NONE without; the class.");
        Checks.due("no keeper", x.on(1, 60, KEPT_BY), Platehall.NONE);
        Checks.due("no owner", x.on(1, 60, OWNED_BY), Platehall.NONE);
        Checks.due("the class", x.on(1, 60, CLASS_OF_TAX), 0);
        Checks.due("the state", x.on(1, 60, STATE), Platehall.UNKNOWN);
    }

    private static void refusesBoth(String asked, Class<? extends RuntimeException> due, int vehicle, int day,
            int what) {
        SOME.refuses("on: " + asked, due, x -> x.on(vehicle, day, what));
        SOME.refuses("onAnew: " + asked, due, x -> x.onAnew(vehicle, day, what));
    }

    private static void takesBoth(String asked, int vehicle, int day, int what, int want) {
        SOME.answers("on: " + asked, want, x -> x.on(vehicle, day, what));
        SOME.answers("onAnew: " + asked, want, x -> x.onAnew(vehicle, day, what));
    }

    private static void onRefused() {
        Checks.promise(9, "vehicle: its number");
        Checks.promise(10, "vehicle: its number");
        takesBoth("the first vehicle", 0, TODAY, CLASS_OF_TAX, 2);
        takesBoth("the last vehicle", 1, TODAY, CLASS_OF_TAX, 0);
        Checks.promise(9, "day: 0 to today");
        Checks.promise(10, "day: 0 to today");
        takesBoth("day 0", 0, 0, STATE, Platehall.UNKNOWN);
        takesBoth("today", 0, TODAY, STATE, Platehall.UNKNOWN);
        Checks.promise(9, "what: 0 its state; 1 its keeper; 2 its owner; 3 its class");
        takesBoth("0", 0, TODAY, 0, Platehall.UNKNOWN);
        takesBoth("3", 0, TODAY, 3, 2);
        Checks.promise(10, "what: 0 to 3");
        takesBoth("1", 0, TODAY, 1, Platehall.NONE);
        takesBoth("2", 0, TODAY, 2, Platehall.NONE);
        Checks.promise(9, "Throws IndexOutOfBoundsException if there is no such vehicle");
        Checks.promise(10, "Throws IndexOutOfBoundsException if there is no such vehicle");
        for (int vehicle : new int[] {-1, 2, 12, Integer.MIN_VALUE, Integer.MAX_VALUE}) {
            refusesBoth("the vehicle " + vehicle, Checks.INDEX, vehicle, TODAY, 0);
            refusesBoth("and a bad day and part", Checks.INDEX, vehicle, TODAY + 1, 4);
        }
        Checks.promise(9, "Throws IllegalArgumentException if day or what is out of range");
        Checks.promise(10, "Throws IllegalArgumentException if day or what is out of range");
        for (int day : new int[] {-1, TODAY + 1, Integer.MIN_VALUE, Integer.MAX_VALUE}) {
            refusesBoth("the day " + day, Checks.ARGUMENT, 0, day, 3);
        }
        for (int what : new int[] {-1, 4, Integer.MIN_VALUE, Integer.MAX_VALUE}) {
            refusesBoth("the part " + what, Checks.ARGUMENT, 0, TODAY, what);
        }
    }
}
