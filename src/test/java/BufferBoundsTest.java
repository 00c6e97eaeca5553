import java.util.ArrayList;
import java.util.List;
import java.util.function.Consumer;

/** The bounds that the document names of the buffer: Terms, and promises 2 and 3. */
public final class BufferBoundsTest {
    private static final String BUFFER = "The buffer has at most 8 signs; it is taken, and empty then, by what uses "
            + "it; an exception leaves it.";
    private static final char[] SIGNS = {0, 1, ' ', 'A', 'z', '?', 127, 128, 255, 256, 32767, 32768, 65535};

    public static void main(String[] args) {
        eightSigns();
        takenByWhatUsesIt();
        leftByWhatDoesNot();
        leftByExceptions();
        type();
        clear();
        Checks.end();
    }

    /** A vehicle on the road with a keeper, a plate, a sighting and a fine; a second one that is gone. */
    private static Made typed(String signs) {
        return new Made(() -> {
            Platehall x = new Platehall();
            x.pass(10);
            x.person();
            x.person();
            x.vehicle(1, 0, 0);
            x.vehicle(10, 0, 0);
            x.tell(0, Platehall.KEEPER, 1, 0);
            x.tell(0, Platehall.ON, 0, 0);
            x.allot(0);
            x.allot(1);
            x.fine(Checks.sightOf(x, "AA00", 0, 0), 5);
            x.tell(1, Platehall.SCRAPPED, 0, 10);
            Checks.typeAll(x, signs);
            return x;
        });
    }

    private static void eightSigns() {
        Checks.says(BUFFER);
        String eight = "ABCD1234";
        for (int there = 0; there < 8; there++) {
            String signs = eight.substring(0, there);
            typed(signs).answers("a sign behind " + there, there + 1, x -> x.type('x'));
            typed(signs).answers("there are " + there, there, x -> x.clear());
        }
        typed(eight).answers("there are eight", 8, x -> x.clear());
        for (char sign : SIGNS) {
            typed(eight).refuses("a ninth, " + (int) sign, Checks.STATE, x -> x.type(sign));
        }
    }

    private static void takenByWhatUsesIt() {
        Checks.says(BUFFER);
        typed("BB12").answers("behind wish", 0, x -> {
            x.wish(0);
            return x.clear();
        });
        for (String signs : new String[] {"AA00", "????", "ZZ99"}) {
            typed(signs).answers("behind sight of " + signs, 0, x -> {
                x.sight(0, 0);
                return x.clear();
            });
        }
        for (String who : new String[] {"police", "insurer", "clamper", "", "a", "nobody", "AA00", "12345678"}) {
            for (int vehicle = 0; vehicle < 2; vehicle++) {
                int at = vehicle;
                typed(who).answers("behind look of " + who, 0, x -> {
                    x.look(at);
                    return x.clear();
                });
            }
        }
        typed("AA0").answers("and typed anew", 4, x -> {
            x.look(0);
            Checks.typeAll(x, "BB1");
            return x.type('2');
        });
        typed("police").answers("nothing of it comes again", Platehall.NONE, x -> {
            x.look(0);
            return x.look(0);
        });
        typed("BB12").answers("nothing of it comes again", 2713, x -> {
            x.wish(0);
            return Checks.wishOf(x, "BB13", 0);
        });
    }

    private static void leftByWhatDoesNot() {
        List<Consumer<Platehall>> others = new ArrayList<>();
        others.add(x -> x.vehicle(100, 0, 0));
        others.add(x -> x.stamped(15));
        others.add(x -> x.person());
        others.add(x -> x.protect(0, true));
        others.add(x -> x.tell(0, Platehall.OWNER, 0, 10));
        others.add(x -> x.on(0, 10, 0));
        others.add(x -> x.onAnew(0, 10, 0));
        others.add(x -> x.bar('C', 'C', true));
        others.add(x -> x.allot(0));
        others.add(x -> x.plate(0, 10, 0));
        others.add(x -> x.rate(0, 0, 5));
        others.add(x -> x.pay(0, 5));
        others.add(x -> x.owes(0));
        others.add(x -> x.test(0, 10, 0, 5));
        others.add(x -> x.insure(0, 10));
        others.add(x -> x.ofVehicle(0, 4));
        others.add(x -> x.seen(0));
        others.add(x -> x.fine(0, 5));
        others.add(x -> x.name(0, 0));
        others.add(x -> x.whose(0));
        others.add(x -> x.fines(0));
        others.add(x -> x.looked(0));
        others.add(x -> x.pass(1));
        leaves(others, "nothing");
    }

    private static void leftByExceptions() {
        Checks.says(BUFFER);
        List<Consumer<Platehall>> refused = new ArrayList<>();
        refused.add(x -> x.look(2));
        refused.add(x -> x.look(-1));
        refused.add(x -> x.wish(2));
        refused.add(x -> x.wish(-1));
        refused.add(x -> x.allot(2));
        refused.add(x -> x.tell(0, 0, 2, 0));
        leaves(refused, "IndexOutOfBoundsException");
        refused.clear();
        refused.add(x -> x.sight(-1, 0));
        refused.add(x -> x.sight(10, 0));
        refused.add(x -> x.sight(0, -1));
        refused.add(x -> x.sight(0, 1440));
        refused.add(x -> x.pass(0));
        refused.add(x -> x.bar('a', 'A', true));
        leaves(refused, "IllegalArgumentException");
        refused.clear();
        refused.add(x -> x.wish(1));
        refused.add(x -> x.allot(1));
        leaves(refused, "IllegalStateException");
        typed("AA00").refuses("of what was allotted", Checks.STATE, x -> x.wish(0));
        typed("AA0?").refuses("of what is no plate", Checks.STATE, x -> x.wish(0));
        typed("AA0A").refuses("of what is no plate", Checks.STATE, x -> x.sight(0, 0));
        typed("police").refuses("of what is no plate", Checks.STATE, x -> x.sight(0, 0));
        typed("police").answers("it still says so", 1, x -> {
            Checks.thrown(x, p -> p.sight(0, 0));
            Checks.thrown(x, p -> p.wish(0));
            return x.look(0);
        });
        typed("BB1").answers("it goes on where it was", 2712, x -> {
            Checks.thrown(x, p -> p.sight(0, 0));
            Checks.thrown(x, p -> p.wish(0));
            x.type('2');
            return x.wish(0);
        });
    }

    /** None of these calls takes away, adds or changes a sign. */
    private static void leaves(List<Consumer<Platehall>> calls, String thrown) {
        for (int i = 0; i < calls.size(); i++) {
            Platehall words = typed("police").one();
            Checks.due("call " + i, Checks.thrown(words, calls.get(i)), thrown);
            Checks.due("the police behind call " + i, words.look(0), 1);
            Platehall plate = typed("BB12").one();
            Checks.thrown(plate, calls.get(i));
            Checks.due("the plate behind call " + i, plate.wish(0), 2712);
            Platehall none = typed("").one();
            Checks.thrown(none, calls.get(i));
            Checks.due("no signs behind call " + i, none.clear(), 0);
        }
    }

    private static void type() {
        Checks.promise(2, "Types a sign.");
        typed("AA0").answers("the last one of a sighting", 0, x -> {
            x.type('0');
            return x.seen(x.sight(0, 0));
        });
        Checks.promise(2, "sign: any sign");
        for (char sign : SIGNS) {
            typed("").answers("type " + (int) sign, 1, x -> x.type(sign));
            typed("1234567").answers("type " + (int) sign + " as the eighth", 8, x -> x.type(sign));
        }
        Checks.promise(2, "Returns how many there are.");
        typed("").answers("the first", 1, x -> x.type('a'));
        typed("aaaa").answers("the fifth", 5, x -> x.type('a'));
        Checks.promise(2, "Throws IllegalStateException if there are 8");
        typed("aaaaaaa").answers("the eighth", 8, x -> x.type('a'));
        typed("aaaaaaaa").refuses("a ninth", Checks.STATE, x -> x.type('a'));
        typed("aaaaaaaa").answers("one behind a ninth and clear", 1, x -> {
            Checks.thrown(x, p -> p.type('b'));
            x.clear();
            return x.type('c');
        });
    }

    private static void clear() {
        Checks.promise(3, "Empties the buffer; returns how many signs there were.");
        for (int there = 0; there <= 8; there++) {
            typed("12345678".substring(0, there)).answers("clear() of " + there, there, x -> x.clear());
            typed("12345678".substring(0, there)).answers("clear() again", 0, x -> {
                x.clear();
                return x.clear();
            });
            typed("12345678".substring(0, there)).answers("a sign behind clear()", 1, x -> {
                x.clear();
                return x.type('a');
            });
        }
        typed("AA0").answers("nothing stays", 2600, x -> {
            x.clear();
            return Checks.wishOf(x, "BA00", 0);
        });
    }
}
