import java.util.function.Supplier;

/** Promises 21 and 22: sight and seen, and of promise 20 how many clones the sightings of a vehicle show. */
public final class SightingsTest {
    private static final int CLONES = 4;

    public static void main(String[] args) {
        sight();
        doubtfulSigns();
        byWhatIsAllottedNow();
        sightRefused();
        sightFull();
        seenRefused();
        clones();
        clonesOfOneOrder();
        clonesOverDays();
        clonesOfOthers();
        Checks.end();
    }

    /** Two vehicles with AA00 and AA01, and one without a plate, on day 5. */
    private static Platehall some() {
        Platehall x = new Platehall();
        x.pass(5);
        x.vehicle(1, 0, 0);
        x.vehicle(10, 0, 0);
        x.vehicle(100, 0, 0);
        x.allot(0);
        x.allot(1);
        return x;
    }

    private static int sightOf(Platehall x, String signs, int place, int minute) {
        Checks.typeAll(x, signs);
        return x.sight(place, minute);
    }

    private static void seen(Platehall x, String signs, int want) {
        int number = sightOf(x, signs, 0, 0);
        Checks.due("seen of " + signs, x.seen(number), want);
    }

    private static void sight() {
        Platehall x = some();
        Checks.due("the first", sightOf(x, "AA00", 0, 0), 0);
        Checks.due("the buffer was taken", x.clear(), 0);
        Checks.due("the second", sightOf(x, "AA01", 9, 1439), 1);
        Checks.due("seen(0)", x.seen(0), 0);
        Checks.due("seen(1)", x.seen(1), 1);
        seen(x, "AA02", Platehall.NONE);
        seen(x, "BA00", Platehall.NONE);
        seen(x, "AB00", Platehall.NONE);
        seen(x, "AA10", Platehall.NONE);
    }

    private static void doubtfulSigns() {
        Platehall x = some();
        seen(x, "AA0?", Platehall.NONE);
        seen(x, "????", Platehall.NONE);
        seen(x, "???0", 0);
        seen(x, "???1", 1);
        seen(x, "A?01", 1);
        seen(x, "?A00", 0);
        seen(x, "AA?1", 1);
        seen(x, "?B??", Platehall.NONE);
        seen(x, "B???", Platehall.NONE);
        Platehall one = new Platehall();
        one.vehicle(1, 0, 0);
        seen(one, "????", Platehall.NONE);
        one.allot(0);
        seen(one, "????", 0);
        one.vehicle(10, 0, 0);
        Checks.due("a vehicle without a plate does not agree", one.seen(0), 0);
        one.tell(0, Platehall.SCRAPPED, 0, 0);
        Checks.due("a gone one has its plate", one.seen(0), 0);
    }

    private static void byWhatIsAllottedNow() {
        Platehall x = some();
        seen(x, "AA02", Platehall.NONE);
        seen(x, "AA0?", Platehall.NONE);
        seen(x, "AA00", 0);
        x.allot(0);
        Checks.due("allotted behind it on its day", x.seen(0), 0);
        Checks.due("two agree as ever", x.seen(1), Platehall.NONE);
        Checks.due("not the last one of its day any more", x.seen(2), Platehall.NONE);
        x.pass(1);
        Checks.typeAll(x, "CC33");
        x.wish(0);
        Checks.due("allotted the next day", x.seen(0), 0);
        seen(x, "AA02", Platehall.NONE);
        seen(x, "CC3?", 0);
        x.allot(2);
        Checks.due("a third one has AA03 from now on", x.seen(1), Platehall.NONE);
        seen(x, "AA03", 2);
    }

    private static Supplier<Platehall> typed(String signs) {
        return () -> {
            Platehall x = some();
            sightOf(x, "AA00", 1, 2);
            Checks.typeAll(x, signs);
            return x;
        };
    }

    private static void sightRefused() {
        int[][] bad = {{-1, 0}, {10, 0}, {0, -1}, {0, 1440}, {Integer.MIN_VALUE, Integer.MAX_VALUE}};
        for (int[] call : bad) {
            String asked = "sight(" + call[0] + ", " + call[1] + ")";
            Checks.refuses(asked, Checks.ARGUMENT, typed("AA01"), p -> p.sight(call[0], call[1]));
            Checks.refuses(asked + " of nothing", Checks.ARGUMENT, typed(""), p -> p.sight(call[0], call[1]));
        }
        String[] signs = {"", "AA0", "AA011", "????????", "AA0A", "AAA1", "1A01", "A101", "aa01", "AA0*", "A-01",
            "AA0/", "AA:0", "@A00", "A[00"};
        for (String wrong : signs) {
            Checks.refuses("sight of " + wrong, Checks.STATE, typed(wrong), p -> p.sight(0, 0));
        }
        Platehall x = typed("AA01").get();
        Checks.due("a bad place", Checks.thrown(x, p -> p.sight(10, 0)), "IllegalArgumentException");
        Checks.due("left the buffer", x.sight(9, 0), 1);
        Checks.due("as it was", x.seen(1), 1);
    }

    private static Platehall full() {
        Platehall x = some();
        for (int i = 0; i < 40; i++) {
            sightOf(x, "AA0" + i % 3, i % 10, i * 31);
        }
        Checks.typeAll(x, "AA00");
        return x;
    }

    private static void sightFull() {
        Platehall x = some();
        for (int i = 0; i < 40; i++) {
            Checks.due("sighting " + i, sightOf(x, "AA0" + i % 3, 0, 1439 - i), i);
        }
        for (int i = 0; i < 40; i++) {
            Checks.due("seen " + i, x.seen(i), i % 3 == 2 ? Platehall.NONE : i % 3);
        }
        Checks.refuses("a 41st", Checks.STATE, SightingsTest::full, p -> p.sight(0, 0));
        Checks.refuses("a 41st at a bad place", Checks.ARGUMENT, SightingsTest::full, p -> p.sight(10, 0));
        Platehall left = full();
        Checks.due("a 41st", Checks.thrown(left, p -> p.sight(0, 0)), "IllegalStateException");
        Checks.due("left the buffer", left.clear(), 4);
    }

    private static void seenRefused() {
        for (int bad : new int[] {-1, 1, 40, Integer.MIN_VALUE, Integer.MAX_VALUE}) {
            Checks.refuses("seen(" + bad + ")", Checks.INDEX, typed("AA"), p -> p.seen(bad));
        }
    }

    private static void clones() {
        Platehall x = some();
        sightOf(x, "AA00", 5, 100);
        Checks.due("one alone", x.ofVehicle(0, CLONES), 0);
        sightOf(x, "AA00", 5, 100);
        Checks.due("the same place and minute", x.ofVehicle(0, CLONES), 0);
        sightOf(x, "AA00", 6, 110);
        Checks.due("10 minutes for 1", x.ofVehicle(0, CLONES), 0);
        sightOf(x, "AA00", 4, 129);
        Checks.due("19 minutes for 2", x.ofVehicle(0, CLONES), 1);
        sightOf(x, "AA00", 9, 179);
        Checks.due("50 minutes for 5", x.ofVehicle(0, CLONES), 1);
        sightOf(x, "AA00", 0, 179);
        Checks.due("0 minutes for 9", x.ofVehicle(0, CLONES), 2);
        Checks.due("the other one", x.ofVehicle(1, CLONES), 0);
        Checks.due("one without a plate", x.ofVehicle(2, CLONES), 0);
    }

    private static void clonesOfOneOrder() {
        Platehall x = some();
        sightOf(x, "AA00", 0, 300);
        sightOf(x, "AA00", 9, 100);
        Checks.due("200 minutes for 9", x.ofVehicle(0, CLONES), 0);
        sightOf(x, "AA00", 0, 200);
        Checks.due("taken later, of a minute between", x.ofVehicle(0, CLONES), 0);
        sightOf(x, "AA00", 9, 260);
        Checks.due("60 ahead and 40 behind for 9", x.ofVehicle(0, CLONES), 2);
        Platehall ties = some();
        sightOf(ties, "AA00", 0, 50);
        sightOf(ties, "AA00", 9, 50);
        sightOf(ties, "AA00", 9, 50);
        Checks.due("0, 9, 9 by numbers", ties.ofVehicle(0, CLONES), 1);
        sightOf(ties, "AA00", 0, 50);
        Checks.due("0, 9, 9, 0 by numbers", ties.ofVehicle(0, CLONES), 2);
        Platehall behind = some();
        sightOf(behind, "AA00", 0, 0);
        sightOf(behind, "AA00", 9, 50);
        sightOf(behind, "AA00", 5, 50);
        Checks.due("0, then 9 and 5 by numbers", behind.ofVehicle(0, CLONES), 2);
        Platehall next = some();
        sightOf(next, "AA00", 0, 0);
        sightOf(next, "AA00", 9, 10);
        sightOf(next, "AA00", 9, 20);
        Checks.due("just one behind the other", next.ofVehicle(0, CLONES), 1);
    }

    private static void clonesOverDays() {
        Platehall x = some();
        sightOf(x, "AA00", 0, 1400);
        x.pass(1);
        sightOf(x, "AA00", 9, 49);
        Checks.due("89 minutes over midnight", x.ofVehicle(0, CLONES), 1);
        sightOf(x, "AA00", 5, 88);
        Checks.due("and 39 for 4", x.ofVehicle(0, CLONES), 2);
        x.pass(1);
        sightOf(x, "AA00", 9, 0);
        Checks.due("a day later", x.ofVehicle(0, CLONES), 2);
        Platehall y = some();
        sightOf(y, "AA00", 0, 1400);
        y.pass(1);
        sightOf(y, "AA00", 9, 50);
        Checks.due("90 minutes over midnight", y.ofVehicle(0, CLONES), 0);
        Platehall far = new Platehall();
        far.vehicle(1, 0, 0);
        far.allot(0);
        sightOf(far, "AA00", 0, 0);
        Checks.passTo(far, 0, 20000);
        sightOf(far, "AA00", 9, 1439);
        sightOf(far, "AA00", 0, 1439);
        Checks.due("from the first day to the last", far.ofVehicle(0, CLONES), 1);
    }

    private static void clonesOfOthers() {
        Platehall x = some();
        sightOf(x, "AA00", 0, 0);
        sightOf(x, "AA01", 9, 5);
        sightOf(x, "AA0?", 9, 6);
        sightOf(x, "AA09", 9, 7);
        sightOf(x, "???0", 0, 10);
        Checks.due("those of others are none between", x.ofVehicle(0, CLONES), 0);
        x.allot(1);
        sightOf(x, "?A02", 0, 20);
        Checks.due("one of a plate that is not the last of the day", x.ofVehicle(1, CLONES), 0);
        sightOf(x, "?A02", 9, 20);
        Checks.due("two of the last", x.ofVehicle(1, CLONES), 1);
        x.allot(1);
        Checks.due("neither of a newer one", x.ofVehicle(1, CLONES), 0);
    }
}
