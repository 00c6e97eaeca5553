import java.util.function.Consumer;

/** The bounds that the document names of plates, their series and wishes: Terms, and promises 11 to 14. */
public final class PlatesBoundsTest {
    private static final int TODAY = 10;
    private static final int[] NO_VEHICLES = {-1, 2, 12, Integer.MIN_VALUE, Integer.MAX_VALUE};
    private static final char[] NO_LETTERS = {0, '@', '[', 'a', 'z', '0', '?', 255, 321, 65535};

    private static final Made SOME = new Made(PlatesBoundsTest::some);

    public static void main(String[] args) {
        signsOfAPlate();
        orderOfLetters();
        barring();
        theSeries();
        inTheBuffer();
        fromThisDayOn();
        neverAgain();
        bar();
        allot();
        wish();
        plate();
        Checks.end();
    }

    /** Day 10; two vehicles, of which the first one has AA00. */
    private static Platehall some() {
        Platehall x = new Platehall();
        x.pass(TODAY);
        x.vehicle(1, 0, 0);
        x.vehicle(10, 0, 0);
        x.allot(0);
        return x;
    }

    private static Made typed(String signs) {
        return with(x -> Checks.typeAll(x, signs));
    }

    private static Made with(Consumer<Platehall> more) {
        return new Made(() -> {
            Platehall x = some();
            more.accept(x);
            return x;
        });
    }

    private static int number(String plate) {
        int letters = (plate.charAt(0) - 'A') * 26 + plate.charAt(1) - 'A';
        return letters * 100 + (plate.charAt(2) - '0') * 10 + plate.charAt(3) - '0';
    }

    private static void signsOfAPlate() {
        Checks.says("A plate has two letters, A to Z, and two digits.");
        for (String plate : new String[] {"AZ99", "ZA00", "ZZ99", "ZZ00", "AA99", "AA90", "AA09", "MN45"}) {
            typed(plate).answers("wish of " + plate, number(plate), x -> x.wish(1));
            typed(plate).answers("its signs", plate, x -> {
                x.wish(1);
                return Checks.plateOf(x, 1, TODAY);
            });
        }
        for (char sign : NO_LETTERS) {
            typed(sign + "B12").refuses("the first letter " + (int) sign, Checks.STATE, x -> x.wish(1));
            typed("B" + sign + "12").refuses("the second letter " + (int) sign, Checks.STATE, x -> x.wish(1));
        }
        for (char sign : new char[] {0, '/', ':', 'A', 'Z', '?', ' ', 255, 304, 65535}) {
            typed("BB" + sign + "2").refuses("the first digit " + (int) sign, Checks.STATE, x -> x.wish(1));
            typed("BB1" + sign).refuses("the second digit " + (int) sign, Checks.STATE, x -> x.wish(1));
        }
        for (String signs : new String[] {"", "B", "BB", "BB1", "BB123", "BB12BB12", " BB12", "BB12 "}) {
            typed(signs).refuses("the signs \"" + signs + "\"", Checks.STATE, x -> x.wish(1));
        }
    }

    private static void orderOfLetters() {
        Checks.says("Plates are in the order of their letters, then their digits, AA00 first.");
        Platehall x = new Platehall();
        x.vehicle(1, 0, 0);
        for (int i = 0; i < 100; i++) {
            Checks.due("plate " + i, x.allot(0), i);
        }
        Checks.due("the 100th", Checks.plateOf(x, 0, 0), "AA99");
        Checks.due("behind AA99", x.allot(0), number("AB00"));
        Checks.due("the 101st", Checks.plateOf(x, 0, 0), "AB00");
        for (char second = 'B'; second < 'Z'; second++) {
            x.bar('A', second, true);
        }
        for (int i = 0; i < 100; i++) {
            Checks.due("plate " + i + " of AZ", x.allot(0), number("AZ00") + i);
        }
        Checks.due("the last one of A", Checks.plateOf(x, 0, 0), "AZ99");
        Checks.due("behind AZ99", x.allot(0), number("BA00"));
        Checks.due("the first one of B", Checks.plateOf(x, 0, 0), "BA00");
        Platehall nines = new Platehall();
        nines.vehicle(1, 0, 0);
        for (int i = 0; i < 9; i++) {
            nines.allot(0);
        }
        Checks.due("the tenth", nines.allot(0), 9);
        Checks.due("its signs", Checks.plateOf(nines, 0, 0), "AA09");
        Checks.due("behind it", nines.allot(0), 10);
        Checks.due("its signs", Checks.plateOf(nines, 0, 0), "AA10");
    }

    private static void barring() {
        Checks.says("Pairs of letters can be barred, for later plates.");
        Platehall x = some();
        x.bar('A', 'A', true);
        Checks.due("one that was allotted stays", Checks.plateOf(x, 0, TODAY), "AA00");
        Checks.due("a later one is not of it", x.allot(1), number("AB00"));
        Checks.due("nor wished for", Checks.thrown(x, p -> Checks.wishOf(p, "AA50", 1)), "IllegalStateException");
        x.bar('A', 'A', false);
        Checks.due("barred no more", x.wish(1), number("AA50"));
        x.bar('A', 'C', true);
        Checks.due("another pair", x.allot(1), number("AB01"));
        x.bar('B', 'A', true);
        Checks.due("the letters in the other order", x.allot(1), number("AB02"));
        x.bar('A', 'B', true);
        Checks.due("behind two barred ones", x.allot(1), number("AD00"));
        for (char first = 'A'; first <= 'M'; first++) {
            for (char second = 'A'; second <= 'Z'; second++) {
                x.bar(first, second, true);
            }
        }
        Checks.due("all of A to M", x.allot(1), number("NA00"));
    }

    private static void theSeries() {
        Checks.says("A plate is allotted to a vehicle today: the one of the series, that is the first plate behind the "
                + "one allotted by the series last, or AA00, whose letters are not barred, and that was never "
                + "allotted; or that in the buffer, if it is one, was never allotted, and its letters are not barred.");
        Made made = new Made(() -> {
            Platehall x = new Platehall();
            x.vehicle(1, 0, 0);
            x.vehicle(10, 0, 0);
            return x;
        });
        made.answers("the first one", 0, x -> x.allot(1));
        Platehall x = made.one();
        Checks.wishOf(x, "AA05", 0);
        Checks.due("not behind the one wished for", x.allot(0), 0);
        Checks.wishOf(x, "AA01", 0);
        Checks.wishOf(x, "AA02", 1);
        Checks.due("behind two that were wished for", x.allot(1), 3);
        Checks.due("ahead of one", x.allot(1), 4);
        Checks.due("behind it", x.allot(1), 6);
        x.bar('A', 'A', true);
        Checks.due("behind barred ones", x.allot(1), number("AB00"));
        x.bar('A', 'A', false);
        Checks.due("never back", x.allot(1), number("AB01"));
        Checks.wishOf(x, "AB99", 0);
        x.bar('A', 'C', true);
        for (int i = 2; i < 99; i++) {
            Checks.due("plate " + i + " of AB", x.allot(1), number("AB00") + i);
        }
        Checks.due("behind one wished for and barred ones", x.allot(1), number("AD00"));
        Platehall first = made.one();
        Checks.wishOf(first, "AA00", 1);
        Checks.due("AA00 was wished for", first.allot(0), 1);
        Platehall barred = made.one();
        barred.bar('A', 'A', true);
        Checks.due("AA is barred", barred.allot(0), 100);
    }

    private static void inTheBuffer() {
        typed("BB12").answers("one in the buffer", number("BB12"), x -> x.wish(1));
        typed("AA01").answers("the next one of the series", 1, x -> x.wish(1));
        typed("AA00").refuses("one that was allotted", Checks.STATE, x -> x.wish(1));
        with(x -> {
            x.bar('B', 'B', true);
            Checks.typeAll(x, "BB12");
        }).refuses("one of barred letters", Checks.STATE, x -> x.wish(1));
        with(x -> {
            x.bar('B', 'B', true);
            x.bar('B', 'B', false);
            Checks.typeAll(x, "BB12");
        }).answers("barred no more", number("BB12"), x -> x.wish(1));
        with(x -> {
            x.bar('B', 'A', true);
            x.bar('A', 'B', true);
            Checks.typeAll(x, "BB12");
        }).answers("one letter alone", number("BB12"), x -> x.wish(1));
        with(x -> {
            Checks.wishOf(x, "BB12", 0);
            Checks.typeAll(x, "BB12");
        }).refuses("one that was wished for", Checks.STATE, x -> x.wish(1));
        with(x -> {
            Checks.wishOf(x, "BB12", 0);
            Checks.typeAll(x, "BB13");
        }).answers("the one behind that", number("BB13"), x -> x.wish(1));
    }

    private static void fromThisDayOn() {
        Checks.says("The vehicle has that from this day on, and no other one then; what was allotted is never allotted "
                + "again.");
        Platehall x = some();
        Checks.due("the day ahead", Checks.plateOf(x, 0, TODAY - 1), "----");
        Checks.due("day 0", Checks.plateOf(x, 0, 0), "----");
        Checks.due("this day", Checks.plateOf(x, 0, TODAY), "AA00");
        x.pass(400);
        Checks.due("400 days on", Checks.plateOf(x, 0, 410), "AA00");
        x.allot(0);
        Checks.due("the day ahead of another", Checks.plateOf(x, 0, 409), "AA00");
        Checks.due("the day of another", Checks.plateOf(x, 0, 410), "AA01");
        Checks.wishOf(x, "CD34", 0);
        Checks.due("the last one of a day", Checks.plateOf(x, 0, 410), "CD34");
        Checks.due("the day ahead of it", Checks.plateOf(x, 0, 409), "AA00");
        x.pass(1);
        Checks.due("the day behind it", Checks.plateOf(x, 0, 411), "CD34");
        Checks.due("another vehicle", Checks.plateOf(x, 1, 411), "----");
        x.tell(0, Platehall.SCRAPPED, 0, 411);
        Checks.due("a gone one", Checks.plateOf(x, 0, 411), "CD34");
    }

    private static void neverAgain() {
        Platehall x = some();
        x.allot(0);
        Checks.due("one given up", Checks.thrown(x, p -> Checks.wishOf(p, "AA00", 1)), "IllegalStateException");
        Checks.due("nor by its vehicle", Checks.thrown(x, p -> p.wish(0)), "IllegalStateException");
        x.clear();
        Checks.due("one's own", Checks.thrown(x, p -> Checks.wishOf(p, "AA01", 0)), "IllegalStateException");
        x.clear();
        x.tell(0, Platehall.SCRAPPED, 0, TODAY);
        x.pass(400);
        Checks.due("that of a gone one", Checks.thrown(x, p -> Checks.wishOf(p, "AA01", 1)), "IllegalStateException");
        x.clear();
        x.bar('A', 'A', true);
        x.bar('A', 'A', false);
        Checks.due("barred and free", Checks.thrown(x, p -> Checks.wishOf(p, "AA00", 1)), "IllegalStateException");
        x.clear();
        Checks.wishOf(x, "AA03", 1);
        x.allot(1);
        Checks.due("nor by the series", x.allot(1), 4);
    }

    private static void bar() {
        Checks.promise(11, "Bars a pair of letters, or not any more.");
        with(x -> x.bar('A', 'A', true)).answers("the series", 100, x -> x.allot(1));
        with(x -> x.bar('A', 'A', false)).answers("the series", 1, x -> x.allot(1));
        for (char sign : NO_LETTERS) {
            for (boolean is : new boolean[] {true, false}) {
                Checks.promise(11, "first: A to Z");
                SOME.refuses("bar(" + (int) sign + ", A)", Checks.ARGUMENT, x -> x.bar(sign, 'A', is));
                Checks.promise(11, "second: A to Z");
                SOME.refuses("bar(A, " + (int) sign + ")", Checks.ARGUMENT, x -> x.bar('A', sign, is));
                Checks.promise(11, "Throws IllegalArgumentException if first or second is out of range");
                SOME.refuses("both " + (int) sign, Checks.ARGUMENT, x -> x.bar(sign, sign, is));
            }
        }
        Checks.promise(11, "is: whether it is barred");
        for (String pair : new String[] {"AA", "AZ", "ZA", "ZZ"}) {
            char first = pair.charAt(0);
            char second = pair.charAt(1);
            SOME.answers("bar " + pair, false, x -> x.bar(first, second, true));
            with(x -> x.bar(first, second, true)).answers("again", true, x -> x.bar(first, second, true));
            Made barred = with(x -> {
                x.bar(first, second, true);
                Checks.typeAll(x, pair + "55");
            });
            barred.refuses(pair + "55, which is barred", Checks.STATE, x -> x.wish(1));
            typed(pair + "55").answers(pair + "55", number(pair + "55"), x -> x.wish(1));
        }
        Checks.promise(11, "Returns whether it was.");
        Platehall x = some();
        Checks.due("at first", x.bar('B', 'C', false), false);
        Checks.due("behind false", x.bar('B', 'C', true), false);
        Checks.due("behind true", x.bar('B', 'C', true), true);
        Checks.due("behind true and true", x.bar('B', 'C', false), true);
        Checks.due("behind true, true and false", x.bar('B', 'C', false), false);
        Checks.due("another pair", x.bar('C', 'B', true), false);
        Checks.due("the pair behind it", x.bar('C', 'C', false), false);
    }

    private static Made inState(int... kinds) {
        return with(x -> {
            for (int kind : kinds) {
                x.tell(1, kind, 0, TODAY);
            }
            Checks.typeAll(x, "BB12");
        });
    }

    private static void allot() {
        Checks.promise(12, "Allots a plate of the series.");
        SOME.answers("behind AA00", 1, x -> x.allot(0));
        Checks.promise(12, "vehicle: its number");
        SOME.answers("to the last one", 1, x -> x.allot(1));
        Checks.promise(12, "Returns 100 times (26 times the first letter, and the second one, together, A being 0) and "
                + "its digits, together.");
        with(x -> x.bar('A', 'A', true)).answers("AB00", 100, x -> x.allot(1));
        with(x -> {
            for (char second = 'A'; second <= 'Z'; second++) {
                x.bar('A', second, true);
            }
        }).answers("BA00", 2600, x -> x.allot(1));
        Checks.promise(12, "Throws IndexOutOfBoundsException if there is no such vehicle");
        for (int vehicle : NO_VEHICLES) {
            SOME.refuses("to the vehicle " + vehicle, Checks.INDEX, x -> x.allot(vehicle));
        }
        Checks.promise(12, "Throws IllegalStateException if the vehicle is GONE today, or there is none left");
        inState(Platehall.SCRAPPED).refuses("to a gone one", Checks.STATE, x -> x.allot(1));
        inState(Platehall.SCRAPPED, Platehall.ON).refuses("to a gone one", Checks.STATE, x -> x.allot(1));
        inState(Platehall.SCRAPPED).answers("to another one", 1, x -> x.allot(0));
        inState(Platehall.STOLEN).answers("to a missing one", 1, x -> x.allot(1));
        inState(Platehall.ON).answers("to one on the road", 1, x -> x.allot(1));
        inState(Platehall.OFF).answers("to one in a garage", 1, x -> x.allot(1));
        with(x -> x.tell(1, Platehall.SCRAPPED, 0, 0)).refuses("gone long ago", Checks.STATE, x -> x.allot(1));
    }

    private static void wish() {
        Checks.promise(13, "Allots the plate in the buffer.");
        typed("BB12").answers("it has that", "BB12", x -> {
            x.wish(1);
            return Checks.plateOf(x, 1, TODAY);
        });
        Checks.promise(13, "vehicle: its number");
        typed("BB12").answers("for the first one", 2712, x -> x.wish(0));
        typed("BB12").answers("for the last one", 2712, x -> x.wish(1));
        Checks.promise(13, "Returns the same of that.");
        typed("AA01").answers("AA01", 1, x -> x.wish(0));
        typed("ZZ99").answers("ZZ99", 67599, x -> x.wish(0));
        Checks.promise(13, "Throws IndexOutOfBoundsException if there is no such vehicle");
        for (int vehicle : NO_VEHICLES) {
            typed("BB12").refuses("for the vehicle " + vehicle, Checks.INDEX, x -> x.wish(vehicle));
            typed("BB1").refuses("of no plate for " + vehicle, Checks.INDEX, x -> x.wish(vehicle));
        }
        Checks.promise(13, "Throws IllegalStateException if the vehicle is GONE today, the buffer is no plate, or it "
                + "cannot be allotted");
        inState(Platehall.SCRAPPED).refuses("for a gone one", Checks.STATE, x -> x.wish(1));
        inState(Platehall.SCRAPPED, Platehall.FOUND).refuses("for a gone one", Checks.STATE, x -> x.wish(1));
        inState(Platehall.SCRAPPED).answers("for another one", 2712, x -> x.wish(0));
        inState(Platehall.STOLEN).answers("for a missing one", 2712, x -> x.wish(1));
        inState(Platehall.ON).answers("for one on the road", 2712, x -> x.wish(1));
        inState(Platehall.OFF).answers("for one in a garage", 2712, x -> x.wish(1));
        typed("").refuses("of an empty buffer", Checks.STATE, x -> x.wish(1));
        typed("AA00").refuses("of one allotted", Checks.STATE, x -> x.wish(1));
        typed("AA0?").refuses("of a doubtful one", Checks.STATE, x -> x.wish(1));
    }

    private static void plate() {
        Checks.promise(14, "Returns a sign of the plate of a vehicle.");
        Made named = with(x -> {
            x.pass(5);
            Checks.wishOf(x, "XY56", 0);
        });
        Checks.promise(14, "vehicle: its number");
        named.answers("the first vehicle", 'X', x -> x.plate(0, TODAY + 5, 0));
        named.answers("the last vehicle", 0, x -> (int) x.plate(1, TODAY + 5, 0));
        Checks.promise(14, "day: 0 to today");
        named.answers("today", '6', x -> x.plate(0, TODAY + 5, 3));
        named.answers("yesterday", '0', x -> x.plate(0, TODAY + 4, 3));
        named.answers("day 0", 0, x -> (int) x.plate(0, 0, 3));
        Checks.promise(14, "place: 0 to 3");
        for (int place = 0; place <= 3; place++) {
            int asked = place;
            named.answers("the place " + place, "XY56".charAt(place), x -> x.plate(0, TODAY + 5, asked));
        }
        Checks.promise(14, "Returns the sign; a 0 without a plate.");
        SOME.answers("without a plate", 0, x -> (int) x.plate(1, TODAY, 0));
        SOME.answers("ahead of its plate", 0, x -> (int) x.plate(0, TODAY - 1, 3));
        Checks.promise(14, "Throws IndexOutOfBoundsException if there is no such vehicle or place of a sign");
        for (int vehicle : NO_VEHICLES) {
            SOME.refuses("the vehicle " + vehicle, Checks.INDEX, x -> x.plate(vehicle, TODAY, 0));
            SOME.refuses("and a bad day", Checks.INDEX, x -> x.plate(vehicle, TODAY + 1, 4));
        }
        for (int place : new int[] {-1, 4, Integer.MIN_VALUE, Integer.MAX_VALUE}) {
            SOME.refuses("the place " + place, Checks.INDEX, x -> x.plate(0, TODAY, place));
            SOME.refuses("the place " + place + " without a plate", Checks.INDEX, x -> x.plate(1, TODAY, place));
            SOME.refuses("the place " + place + " and a bad day", Checks.INDEX, x -> x.plate(0, TODAY + 1, place));
        }
        Checks.promise(14, "Throws IllegalArgumentException if day is out of range");
        for (int day : new int[] {-1, TODAY + 1, Integer.MIN_VALUE, Integer.MAX_VALUE}) {
            SOME.refuses("the day " + day, Checks.ARGUMENT, x -> x.plate(0, day, 0));
            SOME.refuses("the day " + day + " without a plate", Checks.ARGUMENT, x -> x.plate(1, day, 3));
        }
    }
}
