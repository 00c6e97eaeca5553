import java.util.function.Consumer;

/** The bounds that the document names of sightings and clones: Terms, and promises 21 and 22. */
public final class SightingsBoundsTest {
    private static final int CLONES = 4;
    private static final int TODAY = 5;
    private static final int[] FAR = {Integer.MIN_VALUE, Integer.MAX_VALUE};
    private static final String OF_WHICH = "It is of the vehicle whose plate of that day, the last one that it had "
            + "allotted by its end, agrees with it in all other signs, if there is just one.";
    private static final String SHOW = "Two sightings of one vehicle, one behind the other by days, minutes and then "
            + "numbers, show a clone, if there are fewer minutes between them than 10 times the difference of their "
            + "places.";

    public static void main(String[] args) {
        numbers();
        fourSigns();
        placesAndMinutes();
        otherSigns();
        justOne();
        theLastOneOfTheDay();
        tenMinutesForAPlace();
        oneBehindTheOther();
        overDays();
        ofOneVehicle();
        sight();
        seen();
        Checks.end();
    }

    /** Day 5; vehicles with AA00 and AA01, and one without a plate. */
    private static Platehall some() {
        Platehall x = new Platehall();
        x.pass(TODAY);
        x.vehicle(1, 0, 0);
        x.vehicle(10, 0, 0);
        x.vehicle(100, 0, 0);
        x.allot(0);
        x.allot(1);
        return x;
    }

    private static Made with(Consumer<Platehall> more) {
        return new Made(() -> {
            Platehall x = some();
            more.accept(x);
            return x;
        });
    }

    private static Made typed(String signs) {
        return with(x -> Checks.typeAll(x, signs));
    }

    private static Made sighted(int sightings, String signs) {
        return with(x -> {
            for (int i = 0; i < sightings; i++) {
                Checks.sightOf(x, i % 2 == 0 ? "AA00" : "AA01", i % 10, 1439 - i);
            }
            Checks.typeAll(x, signs);
        });
    }

    private static void numbers() {
        Checks.says("Sightings are numbered from 0, at most 40; a sighting is of the buffer, four signs, of which some "
                + "may be \"?\", at a place, 0 to 9, today, at a minute of the day, 0 to 1439.");
        for (int there : new int[] {0, 1, 2, 20, 38, 39}) {
            sighted(there, "AA01").answers("the sighting behind " + there, there, x -> x.sight(0, 0));
            sighted(there, "AA01").refuses("seen(" + there + ") ahead of it", Checks.INDEX, x -> x.seen(there));
            sighted(there + 1, "").answers("seen(" + there + ") behind it", there % 2, x -> x.seen(there));
        }
        sighted(40, "AA01").refuses("a 41st", Checks.STATE, x -> x.sight(0, 0));
        sighted(40, "????").refuses("a 41st", Checks.STATE, x -> x.sight(9, 1439));
        sighted(40, "AA0").refuses("a 41st of no plate", Checks.STATE, x -> x.sight(0, 0));
        sighted(40, "AA01").refuses("seen(40)", Checks.INDEX, x -> x.seen(40));
        sighted(39, "AA0").refuses("the 40th of no plate", Checks.STATE, x -> x.sight(0, 0));
    }

    private static void fourSigns() {
        for (String signs : new String[] {"AA00", "ZZ99", "AZ09", "ZA90", "?A00", "A?00", "AA?0", "AA0?", "??00",
            "AA??", "?A?0", "???0", "?Z??", "????"}) {
            typed(signs).answers("of " + signs, 0, x -> x.sight(0, 0));
        }
        for (String signs : new String[] {"", "A", "AA", "AA0", "AA000", "?", "???", "?????", "????????", "AA00AA00"}) {
            typed(signs).refuses("of \"" + signs + "\"", Checks.STATE, x -> x.sight(0, 0));
        }
        for (char sign : new char[] {0, '@', '[', 'a', 'z', '0', '9', '*', 255, 321, 65535}) {
            typed(sign + "A00").refuses("the first letter " + (int) sign, Checks.STATE, x -> x.sight(0, 0));
            typed("A" + sign + "00").refuses("the second letter " + (int) sign, Checks.STATE, x -> x.sight(0, 0));
            typed("?" + sign + "??").refuses("among doubtful ones " + (int) sign, Checks.STATE, x -> x.sight(0, 0));
        }
        for (char sign : new char[] {0, '/', ':', 'A', 'Z', '*', ' ', 255, 304, 65535}) {
            typed("AA" + sign + "0").refuses("the first digit " + (int) sign, Checks.STATE, x -> x.sight(0, 0));
            typed("AA0" + sign).refuses("the second digit " + (int) sign, Checks.STATE, x -> x.sight(0, 0));
            typed("??" + sign + "?").refuses("among doubtful ones " + (int) sign, Checks.STATE, x -> x.sight(0, 0));
        }
    }

    private static void placesAndMinutes() {
        for (int place = 0; place <= 9; place++) {
            int at = place;
            typed("AA00").answers("at the place " + place, 0, x -> x.sight(at, 0));
        }
        for (int minute : new int[] {0, 1, 720, 1438, 1439}) {
            typed("AA00").answers("at the minute " + minute, 0, x -> x.sight(0, minute));
        }
        for (String signs : new String[] {"AA00", "", "AA0"}) {
            typed(signs).refuses("at the place -1", Checks.ARGUMENT, x -> x.sight(-1, 0));
            typed(signs).refuses("at the place 10", Checks.ARGUMENT, x -> x.sight(10, 0));
            typed(signs).refuses("at the minute -1", Checks.ARGUMENT, x -> x.sight(0, -1));
            typed(signs).refuses("at the minute 1440", Checks.ARGUMENT, x -> x.sight(0, 1440));
            for (int far : FAR) {
                typed(signs).refuses("at the place " + far, Checks.ARGUMENT, x -> x.sight(far, 0));
                typed(signs).refuses("at the minute " + far, Checks.ARGUMENT, x -> x.sight(0, far));
            }
        }
    }

    private static void of(Platehall x, String signs, int want) {
        Checks.due("of " + signs, x.seen(Checks.sightOf(x, signs, 0, 0)), want);
    }

    private static void otherSigns() {
        Checks.says(OF_WHICH);
        Platehall x = some();
        of(x, "AA00", 0);
        of(x, "AA01", 1);
        of(x, "BA00", Platehall.NONE);
        of(x, "AB00", Platehall.NONE);
        of(x, "AA10", Platehall.NONE);
        of(x, "AA02", Platehall.NONE);
        of(x, "?A00", 0);
        of(x, "A?00", 0);
        of(x, "AA?0", 0);
        of(x, "???1", 1);
        of(x, "?B?1", Platehall.NONE);
        of(x, "??1?", Platehall.NONE);
        of(x, "B???", Platehall.NONE);
        of(x, "?B??", Platehall.NONE);
        of(x, "???2", Platehall.NONE);
    }

    private static void justOne() {
        Platehall x = some();
        of(x, "AA0?", Platehall.NONE);
        of(x, "????", Platehall.NONE);
        of(x, "??0?", Platehall.NONE);
        Platehall one = new Platehall();
        one.vehicle(1, 0, 0);
        of(one, "????", Platehall.NONE);
        one.allot(0);
        of(one, "????", 0);
        of(one, "AA0?", 0);
        one.vehicle(10, 0, 0);
        of(one, "????", 0);
        one.allot(1);
        of(one, "????", Platehall.NONE);
        Checks.due("the one of a single plate, two of them now", one.seen(1), Platehall.NONE);
        of(one, "???0", 0);
        Platehall all = new Platehall();
        int[] serials = {0, 1, 10, 100, 1000, 9999, 1234, 11, 12, 13, 14, 15};
        for (int i = 0; i < serials.length; i++) {
            all.vehicle(serials[i], 0, 0);
            all.allot(i);
        }
        of(all, "AA11", 11);
        of(all, "AA1?", Platehall.NONE);
        of(all, "AA?9", 9);
        of(all, "AA?1", Platehall.NONE);
        of(all, "AA?0", Platehall.NONE);
    }

    private static void theLastOneOfTheDay() {
        Checks.says(OF_WHICH);
        Platehall x = some();
        of(x, "AA00", 0);
        of(x, "AA02", Platehall.NONE);
        x.allot(0);
        Checks.due("not that any more, by the end of the day", x.seen(0), Platehall.NONE);
        Checks.due("but that which was allotted behind it", x.seen(1), 0);
        x.pass(1);
        of(x, "AA02", 0);
        x.allot(0);
        Checks.due("that of the day ahead stays", x.seen(1), 0);
        Checks.due("that of the day does not", x.seen(2), Platehall.NONE);
        of(x, "AA03", 0);
        of(x, "AA0?", Platehall.NONE);
        of(x, "AA00", Platehall.NONE);
        Platehall late = some();
        of(late, "????", Platehall.NONE);
        of(late, "???2", Platehall.NONE);
        late.pass(1);
        late.allot(2);
        Checks.due("one that had none that day", late.seen(1), Platehall.NONE);
        of(late, "???2", 2);
        late.tell(2, Platehall.SCRAPPED, 0, TODAY + 1);
        Checks.due("a gone one", late.seen(2), 2);
        late.pass(400);
        of(late, "???2", 2);
        late.bar('A', 'A', true);
        Checks.due("of letters that are barred now", late.seen(3), 2);
    }

    /** How many clones these places and minutes of one day show. */
    private static void clones(int want, int... placesAndMinutes) {
        Platehall x = some();
        StringBuilder taken = new StringBuilder();
        for (int i = 0; i < placesAndMinutes.length; i += 2) {
            Checks.sightOf(x, "AA00", placesAndMinutes[i], placesAndMinutes[i + 1]);
            taken.append(' ').append(placesAndMinutes[i]).append('/').append(placesAndMinutes[i + 1]);
        }
        Checks.due("clones of" + taken, x.ofVehicle(0, CLONES), want);
    }

    private static void tenMinutesForAPlace() {
        Checks.says(SHOW);
        clones(0);
        clones(0, 5, 100);
        clones(0, 5, 100, 5, 100);
        clones(1, 5, 100, 6, 100);
        for (int places = 1; places <= 9; places++) {
            clones(1, 0, 100, places, 100 + 10 * places - 1);
            clones(0, 0, 100, places, 100 + 10 * places);
            clones(0, 0, 100, places, 100 + 10 * places + 1);
            clones(1, 9, 100, 9 - places, 100 + 10 * places - 1);
            clones(0, 9, 100, 9 - places, 100 + 10 * places);
        }
        clones(1, 0, 0, 9, 89);
        clones(1, 9, 1350, 0, 1439);
        clones(0, 9, 1349, 0, 1439);
        clones(2, 0, 100, 1, 109, 0, 118);
        clones(3, 0, 0, 9, 0, 0, 0, 9, 0);
    }

    private static void oneBehindTheOther() {
        Checks.says(SHOW);
        clones(1, 9, 150, 0, 100);
        clones(0, 0, 300, 9, 100, 0, 200);
        clones(2, 0, 300, 9, 100, 0, 200, 9, 250);
        clones(1, 0, 50, 9, 50, 9, 50);
        clones(2, 0, 50, 9, 50, 0, 50);
        clones(2, 9, 50, 0, 50, 9, 50);
        clones(1, 0, 0, 9, 10, 9, 20);
        clones(1, 0, 100, 0, 100, 9, 100);
        // 0, then by numbers 5, 9, 9: with 9 next to 0 there would be two
        clones(1, 5, 50, 9, 50, 9, 50, 0, 0);
        clones(1, 5, 49, 5, 50, 0, 0);
        clones(0, 5, 50, 5, 51, 0, 0);
    }

    private static void overDays() {
        Checks.says(SHOW);
        for (int minutes : new int[] {89, 90}) {
            Platehall x = some();
            Checks.sightOf(x, "AA00", 0, 1400);
            x.pass(1);
            Checks.sightOf(x, "AA00", 9, minutes - 40);
            Checks.due(minutes + " minutes over midnight", x.ofVehicle(0, CLONES), minutes < 90 ? 1 : 0);
        }
        Platehall next = some();
        Checks.sightOf(next, "AA00", 0, 1439);
        next.pass(1);
        Checks.sightOf(next, "AA00", 1, 0);
        Checks.due("one minute over midnight", next.ofVehicle(0, CLONES), 1);
        Platehall sameMinute = some();
        Checks.sightOf(sameMinute, "AA00", 0, 700);
        sameMinute.pass(1);
        Checks.sightOf(sameMinute, "AA00", 9, 700);
        Checks.due("the same minute of another day", sameMinute.ofVehicle(0, CLONES), 0);
        Platehall late = some();
        Checks.sightOf(late, "AA00", 0, 1439);
        late.pass(1);
        Checks.sightOf(late, "AA00", 9, 1439);
        Checks.sightOf(late, "AA00", 9, 0);
        Checks.due("days ahead of minutes", late.ofVehicle(0, CLONES), 1);
        Platehall far = new Platehall();
        far.vehicle(1, 0, 0);
        far.allot(0);
        Checks.sightOf(far, "AA00", 0, 0);
        Checks.passTo(far, 0, 20000);
        Checks.sightOf(far, "AA00", 9, 1439);
        Checks.due("all days that there are", far.ofVehicle(0, CLONES), 0);
        Checks.sightOf(far, "AA00", 0, 1439);
        Checks.due("the last minute of all", far.ofVehicle(0, CLONES), 1);
    }

    private static void ofOneVehicle() {
        Platehall x = some();
        Checks.sightOf(x, "AA00", 0, 0);
        Checks.sightOf(x, "AA01", 9, 0);
        Checks.sightOf(x, "AA0?", 9, 0);
        Checks.sightOf(x, "ZZ99", 9, 0);
        Checks.sightOf(x, "AA00", 0, 0);
        Checks.due("others between them", x.ofVehicle(0, CLONES), 0);
        Checks.due("of another one", x.ofVehicle(1, CLONES), 0);
        Checks.due("of none", x.ofVehicle(2, CLONES), 0);
        Checks.sightOf(x, "???1", 8, 9);
        Checks.due("a doubtful one of it", x.ofVehicle(1, CLONES), 1);
        Checks.due("is not of another one", x.ofVehicle(0, CLONES), 0);
        x.allot(1);
        Checks.due("of a plate that it has not now", x.ofVehicle(1, CLONES), 0);
        Platehall all = some();
        for (int i = 0; i < 40; i++) {
            Checks.sightOf(all, "AA00", i % 2 * 9, i);
        }
        Checks.due("forty of them", all.ofVehicle(0, CLONES), 39);
    }

    private static void sight() {
        Checks.promise(21, "Takes a sighting of what is in the buffer.");
        typed("AA01").answers("it is there", 1, x -> x.seen(x.sight(0, 0)));
        Checks.promise(21, "place: 0 to 9");
        typed("AA01").answers("the place 9", 0, x -> x.sight(9, 0));
        Checks.promise(21, "minute: 0 to 1439");
        typed("AA01").answers("the minute 1439", 0, x -> x.sight(0, 1439));
        Checks.promise(21, "Returns its number.");
        sighted(7, "AA01").answers("the eighth", 7, x -> x.sight(0, 0));
        Checks.promise(21, "Throws IllegalArgumentException if place or minute is out of range");
        for (int there : new int[] {39, 40}) {
            sighted(there, "AA01").refuses("the place 10", Checks.ARGUMENT, x -> x.sight(10, 0));
            sighted(there, "AA01").refuses("the place -1", Checks.ARGUMENT, x -> x.sight(-1, 0));
            sighted(there, "AA0").refuses("the minute 1440", Checks.ARGUMENT, x -> x.sight(0, 1440));
            sighted(there, "AA0").refuses("the minute -1", Checks.ARGUMENT, x -> x.sight(0, -1));
        }
        Checks.promise(21, "Throws IllegalStateException if the buffer has not four signs, each \"?\", or such as a "
                + "plate has there, or there are 40");
        typed("AA0").refuses("three signs", Checks.STATE, x -> x.sight(0, 0));
        typed("AA000").refuses("five signs", Checks.STATE, x -> x.sight(0, 0));
        typed("A000").refuses("a digit for a letter", Checks.STATE, x -> x.sight(0, 0));
        typed("AAA0").refuses("a letter for a digit", Checks.STATE, x -> x.sight(0, 0));
        sighted(40, "AA01").refuses("there are 40", Checks.STATE, x -> x.sight(0, 0));
        sighted(39, "AA01").answers("there are 39", 39, x -> x.sight(0, 0));
    }

    private static void seen() {
        Checks.promise(22, "Returns of which vehicle a sighting is, by what is allotted now.");
        sighted(1, "").answers("now", 0, x -> x.seen(0));
        sighted(1, "").answers("allotted anew", Platehall.NONE, x -> {
            x.allot(0);
            return x.seen(0);
        });
        Checks.promise(22, "sighting: its number");
        sighted(40, "").answers("the first sighting", 0, x -> x.seen(0));
        sighted(40, "").answers("the last sighting", 1, x -> x.seen(39));
        Checks.promise(22, "Returns the vehicle; NONE if none agrees, or several.");
        typed("ZZ99").answers("none", Platehall.NONE, x -> x.seen(x.sight(0, 0)));
        typed("AA0?").answers("several", Platehall.NONE, x -> x.seen(x.sight(0, 0)));
        Checks.promise(22, "Throws IndexOutOfBoundsException if there is no such sighting");
        for (int number : new int[] {-1, 2, 40, Integer.MIN_VALUE, Integer.MAX_VALUE}) {
            sighted(2, "AA").refuses("seen(" + number + ")", Checks.INDEX, x -> x.seen(number));
        }
        sighted(0, "AA01").refuses("seen(0) of none at all", Checks.INDEX, x -> x.seen(0));
        sighted(40, "AA01").refuses("seen(40) of forty", Checks.INDEX, x -> x.seen(40));
    }
}
