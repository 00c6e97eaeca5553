import java.util.function.Supplier;

/** Promises 11 to 14: bar, allot, wish and plate. */
public final class PlatesTest {
    public static void main(String[] args) {
        bar();
        series();
        seriesSkipsPairs();
        seriesGoesOverLetters();
        neverAgain();
        wish();
        wishRefused();
        allotRefused();
        plate();
        plateRefused();
        Checks.end();
    }

    private static Platehall some() {
        Platehall x = new Platehall();
        x.pass(10);
        x.vehicle(1, 0, 0);
        x.vehicle(10, 0, 0);
        return x;
    }

    private static Supplier<Platehall> typed(String signs) {
        return () -> {
            Platehall x = some();
            x.allot(0);
            Checks.typeAll(x, signs);
            return x;
        };
    }

    private static void bar() {
        Platehall x = some();
        Checks.due("bar at first", x.bar('A', 'B', true), false);
        Checks.due("bar behind true", x.bar('A', 'B', true), true);
        Checks.due("the other way round", x.bar('B', 'A', false), false);
        Checks.due("bar behind true, true", x.bar('A', 'B', false), true);
        Checks.due("bar behind false", x.bar('A', 'B', false), false);
        Checks.due("bar ZZ", x.bar('Z', 'Z', true), false);
        Checks.due("bar ZZ again", x.bar('Z', 'Z', true), true);
        Checks.due("bar ZA", x.bar('Z', 'A', true), false);
        char[] bad = {0, '@', '[', 'a', 'z', '0', '?', 65535};
        for (char sign : bad) {
            Checks.refuses("bar first " + (int) sign, Checks.ARGUMENT, PlatesTest::some, p -> p.bar(sign, 'A', true));
            Checks.refuses("bar second " + (int) sign, Checks.ARGUMENT, PlatesTest::some, p -> p.bar('A', sign, true));
        }
    }

    private static void series() {
        Platehall x = some();
        for (int i = 0; i < 250; i++) {
            Checks.due("allot " + i, x.allot(i % 2), i);
        }
        Checks.due("the last one of the day", Checks.plateOf(x, 1, 10), "AC49");
        Checks.due("the last one of the day", Checks.plateOf(x, 0, 10), "AC48");
    }

    private static void seriesSkipsPairs() {
        Platehall x = some();
        x.bar('A', 'A', true);
        x.bar('A', 'B', true);
        x.bar('A', 'D', true);
        Checks.due("behind AA and AB", x.allot(0), 200);
        x.bar('A', 'A', false);
        x.bar('A', 'B', false);
        Checks.due("it does not go back", x.allot(0), 201);
        x.bar('A', 'C', true);
        Checks.due("behind AC, AD", x.allot(0), 400);
        x.bar('A', 'C', false);
        x.bar('A', 'E', true);
        x.bar('A', 'E', false);
        Checks.due("barred no more", x.allot(1), 401);
    }

    private static void seriesGoesOverLetters() {
        Platehall x = some();
        for (char second = 'A'; second <= 'Z'; second++) {
            x.bar('A', second, true);
        }
        Checks.due("all of A are barred", x.allot(0), 2600);
        Checks.due("its signs", Checks.plateOf(x, 0, 10), "BA00");
        x.bar('B', 'A', true);
        Checks.due("BB", x.allot(0), 2700);
        Checks.due("its signs", Checks.plateOf(x, 0, 10), "BB00");
    }

    private static void neverAgain() {
        Platehall x = some();
        Checks.typeAll(x, "AA01");
        Checks.due("wish(1)", x.wish(1), 1);
        Checks.due("allot AA00", x.allot(0), 0);
        Checks.due("allot jumps over AA01", x.allot(0), 2);
        Checks.typeAll(x, "AA00");
        Checks.due("wish what was allotted", Checks.thrown(x, p -> p.wish(1)), "IllegalStateException");
        x.clear();
        Checks.typeAll(x, "AA01");
        Checks.due("wish one's own", Checks.thrown(x, p -> p.wish(1)), "IllegalStateException");
        x.clear();
        Checks.typeAll(x, "ZZ99");
        Checks.due("wish the last one", x.wish(1), 67599);
        Checks.due("the series is not moved by wishes", x.allot(1), 3);
        Checks.typeAll(x, "AA64");
        Checks.due("wish AA64", x.wish(1), 64);
        for (int due = 4; due < 140; due++) {
            if (due != 64) {
                Checks.due("allot on", x.allot(0), due);
            }
        }
    }

    private static void wish() {
        Platehall x = some();
        Checks.typeAll(x, "QZ37");
        Checks.due("wish QZ37", x.wish(1), (16 * 26 + 25) * 100 + 37);
        Checks.due("its signs", Checks.plateOf(x, 1, 10), "QZ37");
        Checks.due("the buffer was taken", x.clear(), 0);
        x.bar('Q', 'Z', true);
        Checks.due("it stays, if barred later", Checks.plateOf(x, 1, 10), "QZ37");
        Checks.typeAll(x, "QZ38");
        Checks.due("wish of a barred pair", Checks.thrown(x, p -> p.wish(0)), "IllegalStateException");
        x.bar('Q', 'Z', false);
        Checks.due("the exception left the buffer", x.wish(0), (16 * 26 + 25) * 100 + 38);
    }

    private static void wishRefused() {
        String[] bad = {"", "A", "AB1", "AB123", "ABCDEFGH", "1B12", "A112", "ABC2", "AB1C", "ab12", "AB?2", "?B12",
            "@B12", "A[12", "AB/2", "AB1:", "AA00"};
        for (String signs : bad) {
            Checks.refuses("wish " + signs, Checks.STATE, typed(signs), p -> p.wish(1));
            Checks.refuses("wish for none " + signs, Checks.INDEX, typed(signs), p -> p.wish(2));
        }
        Checks.refuses("wish for -1", Checks.INDEX, typed("BB12"), p -> p.wish(-1));
        Checks.refuses("wish of a barred pair", Checks.STATE, () -> {
            Platehall x = typed("BB12").get();
            x.bar('B', 'B', true);
            return x;
        }, p -> p.wish(1));
        Checks.refuses("wish for a gone one", Checks.STATE, () -> {
            Platehall x = typed("BB12").get();
            x.tell(1, Platehall.SCRAPPED, 0, 10);
            return x;
        }, p -> p.wish(1));
        Platehall x = typed("BB12").get();
        x.tell(1, Platehall.SCRAPPED, 0, 0);
        Checks.due("wish for a gone one", Checks.thrown(x, p -> p.wish(1)), "IllegalStateException");
        Checks.due("that left the buffer", x.wish(0), 2712);
    }

    private static Platehall gone() {
        Platehall x = some();
        x.tell(0, Platehall.SCRAPPED, 0, 10);
        return x;
    }

    private static void allotRefused() {
        Checks.refuses("allot(-1)", Checks.INDEX, PlatesTest::some, p -> p.allot(-1));
        Checks.refuses("allot(2)", Checks.INDEX, PlatesTest::some, p -> p.allot(2));
        Checks.refuses("allot to a gone one", Checks.STATE, PlatesTest::gone, p -> p.allot(0));
        Checks.due("allot to another one", gone().allot(1), 0);
        Platehall x = some();
        Checks.typeAll(x, "AB");
        x.tell(0, Platehall.STOLEN, 0, 10);
        Checks.due("a missing one has a plate", x.allot(0), 0);
        Checks.due("the buffer is not for the series", x.clear(), 2);
        // only behind 676 calls can none be left, which is more than an object promises
        Platehall full = some();
        for (int pair = 0; pair < 676; pair++) {
            full.bar((char) ('A' + pair / 26), (char) ('A' + pair % 26), true);
        }
        Checks.due("none left", Checks.thrown(full, p -> p.allot(0)), "IllegalStateException");
        full.bar('Z', 'Z', false);
        Checks.due("the last pair", full.allot(0), 67500);
    }

    private static void plate() {
        Platehall x = some();
        Checks.due("without a plate", Checks.plateOf(x, 0, 10), "----");
        Checks.due("a sign without a plate", x.plate(0, 0, 0), 0);
        Checks.typeAll(x, "XY56");
        x.wish(0);
        Checks.due("from its day on", Checks.plateOf(x, 0, 10), "XY56");
        Checks.due("not ahead of it", Checks.plateOf(x, 0, 9), "----");
        x.pass(5);
        Checks.due("days later", Checks.plateOf(x, 0, 15), "XY56");
        x.allot(0);
        x.allot(0);
        Checks.due("the last one of a day", Checks.plateOf(x, 0, 15), "AA01");
        Checks.due("the day ahead of it", Checks.plateOf(x, 0, 14), "XY56");
        Checks.due("the other one", Checks.plateOf(x, 1, 15), "----");
        for (int i = 0; i < 20; i++) {
            x.pass(1);
            x.allot(1);
        }
        for (int i = 0; i < 20; i++) {
            Checks.due("a plate each day", Checks.plateOf(x, 1, 16 + i), i < 8 ? "AA0" + (2 + i) : "AA" + (2 + i));
        }
    }

    private static void plateRefused() {
        Supplier<Platehall> make = typed("");
        Checks.refuses("plate(2, 0, 0)", Checks.INDEX, make, p -> p.plate(2, 0, 0));
        Checks.refuses("plate(-1, 99, 0)", Checks.INDEX, make, p -> p.plate(-1, 99, 0));
        Checks.refuses("plate(0, 0, -1)", Checks.INDEX, make, p -> p.plate(0, 0, -1));
        Checks.refuses("plate(0, 0, 4)", Checks.INDEX, make, p -> p.plate(0, 0, 4));
        Checks.refuses("plate(0, 11, 4)", Checks.INDEX, make, p -> p.plate(0, 11, 4));
        Checks.refuses("plate(0, 11, 0)", Checks.ARGUMENT, make, p -> p.plate(0, 11, 0));
        Checks.refuses("plate(0, -1, 0)", Checks.ARGUMENT, make, p -> p.plate(0, -1, 0));
    }
}
