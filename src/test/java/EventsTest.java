/** Promises 8 to 10: tell, on and onAnew. */
public final class EventsTest {
    private static final int STATE = 0, KEPT_BY = 1, OWNED_BY = 2, CLASS_OF_TAX = 3;

    public static void main(String[] args) {
        tellLateAndOutOfOrder();
        latestOfOneDayIsToldLast();
        withoutEvents();
        states();
        allPairsOfStates();
        tellRefused();
        tellFull();
        onRefused();
        Checks.end();
    }

    private static Platehall some() {
        Platehall x = new Platehall();
        x.pass(50);
        x.person();
        x.person();
        x.vehicle(1, 10, 2);
        x.vehicle(10, 0, 0);
        return x;
    }

    private static void both(Platehall x, int vehicle, int day, int what, int want) {
        String asked = "(" + vehicle + ", " + day + ", " + what + ")";
        Checks.due("on" + asked, x.on(vehicle, day, what), want);
        Checks.due("onAnew" + asked, x.onAnew(vehicle, day, what), want);
    }

    private static void tellLateAndOutOfOrder() {
        Platehall x = some();
        Checks.due("the first event", x.tell(0, Platehall.KEEPER, 0, 30), 0);
        Checks.due("a later one", x.tell(0, Platehall.KEEPER, 1, 40), 0);
        Checks.due("one between", x.tell(0, Platehall.OWNER, 1, 35), 1);
        Checks.due("one of the same day", x.tell(0, Platehall.CLASS, 3, 35), 1);
        Checks.due("one on the day built", x.tell(0, Platehall.CLASS, 1, 10), 4);
        Checks.due("one today", x.tell(0, Platehall.ON, 0, 50), 0);
        Checks.due("another vehicle has none", x.tell(1, Platehall.OWNER, 0, 0), 0);
        both(x, 0, 29, KEPT_BY, Platehall.NONE);
        both(x, 0, 30, KEPT_BY, 0);
        both(x, 0, 39, KEPT_BY, 0);
        both(x, 0, 40, KEPT_BY, 1);
        both(x, 0, 34, OWNED_BY, Platehall.NONE);
        both(x, 0, 35, OWNED_BY, 1);
        both(x, 0, 50, OWNED_BY, 1);
        both(x, 0, 9, CLASS_OF_TAX, 2);
        both(x, 0, 10, CLASS_OF_TAX, 1);
        both(x, 0, 34, CLASS_OF_TAX, 1);
        both(x, 0, 35, CLASS_OF_TAX, 3);
        both(x, 0, 49, STATE, Platehall.UNKNOWN);
        both(x, 0, 50, STATE, Platehall.ROAD);
        both(x, 1, 50, KEPT_BY, Platehall.NONE);
        both(x, 1, 0, OWNED_BY, 0);
    }

    private static void latestOfOneDayIsToldLast() {
        Platehall x = some();
        x.tell(0, Platehall.KEEPER, 0, 20);
        x.tell(0, Platehall.KEEPER, 1, 20);
        both(x, 0, 20, KEPT_BY, 1);
        x.tell(0, Platehall.OFF, 0, 20);
        x.tell(0, Platehall.ON, 0, 20);
        both(x, 0, 20, STATE, Platehall.ROAD);
        Checks.due("told last, but of an earlier day", x.tell(0, Platehall.KEEPER, 0, 19), 4);
        both(x, 0, 20, KEPT_BY, 1);
        both(x, 0, 19, KEPT_BY, 0);
    }

    private static void withoutEvents() {
        Platehall x = some();
        for (int day = 0; day <= 50; day += 10) {
            both(x, 0, day, STATE, Platehall.UNKNOWN);
            both(x, 0, day, KEPT_BY, Platehall.NONE);
            both(x, 0, day, OWNED_BY, Platehall.NONE);
            both(x, 0, day, CLASS_OF_TAX, 2);
        }
    }

    /** The kinds of events of days one behind the other, and the state behind each. */
    private static void run(int[] kinds, int[] states) {
        Platehall x = some();
        for (int i = kinds.length - 1; i >= 0; i--) {
            x.tell(1, kinds[i], 0, i + 1);
        }
        both(x, 1, 0, STATE, Platehall.UNKNOWN);
        for (int i = 0; i < kinds.length; i++) {
            both(x, 1, i + 1, STATE, states[i]);
        }
    }

    private static void states() {
        int on = Platehall.ON, off = Platehall.OFF, stolen = Platehall.STOLEN, found = Platehall.FOUND;
        int scrapped = Platehall.SCRAPPED;
        int unknown = Platehall.UNKNOWN, road = Platehall.ROAD, garage = Platehall.GARAGE;
        int missing = Platehall.MISSING, gone = Platehall.GONE;
        run(new int[] {on, off, on}, new int[] {road, garage, road});
        run(new int[] {stolen, found}, new int[] {missing, unknown});
        run(new int[] {found, on, found}, new int[] {unknown, road, road});
        run(new int[] {on, stolen, off, found, found}, new int[] {road, missing, missing, road, road});
        run(new int[] {off, stolen, on, stolen, found}, new int[] {garage, missing, missing, missing, garage});
        run(new int[] {on, stolen, found, off, stolen, found},
                new int[] {road, missing, road, garage, missing, garage});
        run(new int[] {on, stolen, scrapped, found, on}, new int[] {road, missing, gone, gone, gone});
        run(new int[] {scrapped, off, stolen, found, scrapped}, new int[] {gone, gone, gone, gone, gone});
    }

    /** Every kind behind every state: what the words of the document say of each. */
    private static void allPairsOfStates() {
        int[][] ways = {{}, {Platehall.ON}, {Platehall.OFF}, {Platehall.OFF, Platehall.STOLEN}, {Platehall.SCRAPPED}};
        int[][] due = {
            {1, 2, 3, 0, 4}, {1, 2, 3, 1, 4}, {1, 2, 3, 2, 4}, {3, 3, 3, 2, 4}, {4, 4, 4, 4, 4}};
        for (int state = 0; state < ways.length; state++) {
            for (int kind = Platehall.ON; kind <= Platehall.SCRAPPED; kind++) {
                Platehall x = some();
                for (int told : ways[state]) {
                    x.tell(0, told, 0, 10);
                }
                both(x, 0, 10, STATE, state);
                x.tell(0, kind, 0, 10);
                both(x, 0, 10, STATE, due[state][kind - Platehall.ON]);
                x.tell(0, Platehall.CLASS, 3, 11);
                x.tell(0, Platehall.KEEPER, 1, 11);
                both(x, 0, 11, CLASS_OF_TAX, 3);
                both(x, 0, 11, KEPT_BY, 1);
                both(x, 0, 50, STATE, due[state][kind - Platehall.ON]);
            }
        }
    }

    private static void refuses(Class<? extends RuntimeException> due, int vehicle, int kind, int what, int day) {
        String call = "tell(" + vehicle + ", " + kind + ", " + what + ", " + day + ")";
        Checks.refuses(call, due, EventsTest::some, p -> p.tell(vehicle, kind, what, day));
    }

    private static void tellRefused() {
        refuses(Checks.INDEX, -1, Platehall.ON, 0, 20);
        refuses(Checks.INDEX, 2, Platehall.ON, 0, 20);
        refuses(Checks.INDEX, Integer.MAX_VALUE, 99, 99, 99);
        refuses(Checks.INDEX, 0, Platehall.KEEPER, 2, 20);
        refuses(Checks.INDEX, 0, Platehall.KEEPER, -1, 20);
        refuses(Checks.INDEX, 0, Platehall.OWNER, 2, 20);
        refuses(Checks.INDEX, 0, Platehall.OWNER, -1, 51);
        refuses(Checks.ARGUMENT, 0, -1, 0, 20);
        refuses(Checks.ARGUMENT, 0, 8, 0, 20);
        refuses(Checks.ARGUMENT, 0, 8, 99, 20);
        refuses(Checks.ARGUMENT, 0, Platehall.CLASS, 4, 20);
        refuses(Checks.ARGUMENT, 0, Platehall.CLASS, -1, 20);
        for (int kind = Platehall.ON; kind <= Platehall.SCRAPPED; kind++) {
            refuses(Checks.ARGUMENT, 0, kind, 1, 20);
            refuses(Checks.ARGUMENT, 0, kind, -1, 20);
        }
        refuses(Checks.ARGUMENT, 0, Platehall.KEEPER, 1, 9);
        refuses(Checks.ARGUMENT, 0, Platehall.KEEPER, 1, 51);
        refuses(Checks.ARGUMENT, 0, Platehall.ON, 0, -1);
        refuses(Checks.ARGUMENT, 1, Platehall.ON, 0, Integer.MIN_VALUE);
    }

    private static Platehall full() {
        Platehall x = some();
        for (int i = 0; i < 30; i++) {
            x.tell(0, i % 8, i % 8 == 0 ? 1 : 0, 10 + i * 7 % 40);
        }
        return x;
    }

    private static void tellFull() {
        Platehall x = some();
        for (int i = 0; i < 30; i++) {
            Checks.due("event " + i, x.tell(0, Platehall.ON, 0, 49 - i), i);
        }
        Checks.due("another vehicle is not full", x.tell(1, Platehall.ON, 0, 49), 0);
        Checks.refuses("a 31st", Checks.STATE, EventsTest::full, p -> p.tell(0, Platehall.OFF, 0, 50));
        Checks.refuses("a 31st of nobody", Checks.INDEX, EventsTest::full, p -> p.tell(0, Platehall.KEEPER, 2, 50));
        Checks.refuses("a 31st tomorrow", Checks.ARGUMENT, EventsTest::full, p -> p.tell(0, Platehall.OFF, 0, 51));
    }

    private static void onRefused() {
        int[][] bad = {{0, -1, 0}, {0, 51, 0}, {0, 50, -1}, {0, 50, 4}, {1, 51, 4}, {0, Integer.MAX_VALUE, 0}};
        for (int[] call : bad) {
            String asked = "(" + call[0] + ", " + call[1] + ", " + call[2] + ")";
            Checks.refuses("on" + asked, Checks.ARGUMENT, EventsTest::some, p -> p.on(call[0], call[1], call[2]));
            Checks.refuses("onAnew" + asked, Checks.ARGUMENT, EventsTest::some,
                    p -> p.onAnew(call[0], call[1], call[2]));
        }
        for (int vehicle : new int[] {-1, 2, 12, Integer.MIN_VALUE}) {
            Checks.refuses("on " + vehicle, Checks.INDEX, EventsTest::some, p -> p.on(vehicle, 99, 9));
            Checks.refuses("onAnew " + vehicle, Checks.INDEX, EventsTest::some, p -> p.onAnew(vehicle, 99, 9));
        }
    }
}
