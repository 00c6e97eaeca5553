import java.util.function.Consumer;

/** The bounds that the document names of looks: Terms, and promises 27 and 28. */
public final class LooksBoundsTest {
    private static final int TODAY = 10;
    private static final String WHO = "Who looks for the keeper of a vehicle today is told by the buffer: \"police\" "
            + "sees any; \"insurer\" if the vehicle is in the state ROAD; \"clamper\" if it is in the state GARAGE or "
            + "UNKNOWN; all others see none.";
    private static final String[] OTHERS = {"", "p", "polic", "policf", "policee", "policeme", "xpolice", "Police",
        "POLICE", "police ", " police", "p?lice", "insure", "insurerr", "insurer ", "Insurer", "clampe", "clamperr",
        "clamper ", "Clamper", "insurep", "olice", "keeper", "????", "AA00", "nobody"};
    /** The kinds behind which a vehicle is UNKNOWN, ROAD, GARAGE, MISSING and GONE. */
    private static final int[][] WAYS = {{}, {Platehall.ON}, {Platehall.OFF}, {Platehall.ON, Platehall.STOLEN},
        {Platehall.SCRAPPED}};

    private static final Made SOME = with(x -> { });

    public static void main(String[] args) {
        thePolice();
        theInsurerAndTheClamper();
        allOthers();
        today();
        theProtected();
        counted();
        look();
        looked();
        Checks.end();
    }

    /** Day 10; two people, of whom the second is the keeper of vehicle 0 and the first its owner; 1 has no keeper. */
    private static Made with(Consumer<Platehall> more) {
        return new Made(() -> {
            Platehall x = new Platehall();
            x.pass(TODAY);
            x.person();
            x.person();
            x.vehicle(1, 0, 0);
            x.vehicle(10, 0, 0);
            x.tell(0, Platehall.KEEPER, 1, 3);
            x.tell(0, Platehall.OWNER, 0, 3);
            x.tell(1, Platehall.OWNER, 0, 3);
            more.accept(x);
            return x;
        });
    }

    private static Made in(int state) {
        return with(x -> {
            for (int kind : WAYS[state]) {
                x.tell(0, kind, 0, 5);
            }
        });
    }

    private static void sees(String who, int state, int want) {
        in(state).answers(who + " looks, state " + state, want, x -> Checks.lookOf(x, who, 0));
        in(state).answers("looked(1) behind that", want == 1 ? 1 : 0, x -> {
            Checks.lookOf(x, who, 0);
            return x.looked(1);
        });
        in(state).answers("looked(0) behind that", 0, x -> {
            Checks.lookOf(x, who, 0);
            return x.looked(0);
        });
        in(state).answers("signs behind that", 0, x -> {
            Checks.lookOf(x, who, 0);
            return x.clear();
        });
    }

    private static void thePolice() {
        Checks.says(WHO);
        for (int state = Platehall.UNKNOWN; state <= Platehall.GONE; state++) {
            sees("police", state, 1);
        }
        SOME.answers("no keeper", Platehall.NONE, x -> Checks.lookOf(x, "police", 1));
    }

    private static void theInsurerAndTheClamper() {
        for (int state = Platehall.UNKNOWN; state <= Platehall.GONE; state++) {
            sees("insurer", state, state == Platehall.ROAD ? 1 : Platehall.NONE);
            boolean stands = state == Platehall.GARAGE || state == Platehall.UNKNOWN;
            sees("clamper", state, stands ? 1 : Platehall.NONE);
        }
        with(x -> x.tell(1, Platehall.ON, 0, 5)).answers("no keeper, an insurer", Platehall.NONE,
                x -> Checks.lookOf(x, "insurer", 1));
        SOME.answers("no keeper, a clamper", Platehall.NONE, x -> Checks.lookOf(x, "clamper", 1));
    }

    private static void allOthers() {
        Checks.says(WHO);
        for (String who : OTHERS) {
            for (int state = Platehall.UNKNOWN; state <= Platehall.GONE; state++) {
                sees(who, state, Platehall.NONE);
            }
        }
        char[] wide = "police".toCharArray();
        wide[5] += 256;
        sees(new String(wide), Platehall.ROAD, Platehall.NONE);
    }

    private static void today() {
        Checks.says(WHO);
        with(x -> x.tell(0, Platehall.KEEPER, 0, TODAY)).answers("a keeper from today on", 0,
                x -> Checks.lookOf(x, "police", 0));
        with(x -> x.tell(0, Platehall.KEEPER, 0, TODAY - 1)).answers("from yesterday on", 0,
                x -> Checks.lookOf(x, "police", 0));
        with(x -> x.tell(0, Platehall.KEEPER, 0, 2)).answers("from a day ahead of that of another", 1,
                x -> Checks.lookOf(x, "police", 0));
        Made turned = with(x -> {
            x.tell(0, Platehall.ON, 0, TODAY - 1);
            x.tell(0, Platehall.OFF, 0, TODAY);
        });
        turned.answers("off today: an insurer", Platehall.NONE, x -> Checks.lookOf(x, "insurer", 0));
        turned.answers("off today: a clamper", 1, x -> Checks.lookOf(x, "clamper", 0));
        Made back = with(x -> {
            x.tell(0, Platehall.OFF, 0, TODAY - 1);
            x.tell(0, Platehall.ON, 0, TODAY);
        });
        back.answers("on today: an insurer", 1, x -> Checks.lookOf(x, "insurer", 0));
        back.answers("on today: a clamper", Platehall.NONE, x -> Checks.lookOf(x, "clamper", 0));
        back.answers("a day later", 1, x -> {
            x.pass(1);
            return Checks.lookOf(x, "insurer", 0);
        });
    }

    private static void theProtected() {
        Checks.says("But for the police none sees a keeper who is protected.");
        for (int state = Platehall.UNKNOWN; state <= Platehall.GONE; state++) {
            int[] kinds = WAYS[state];
            Made hidden = with(x -> {
                for (int kind : kinds) {
                    x.tell(0, kind, 0, 5);
                }
                x.protect(1, true);
            });
            hidden.answers("the police", 1, x -> Checks.lookOf(x, "police", 0));
            hidden.answers("an insurer", Platehall.NONE, x -> Checks.lookOf(x, "insurer", 0));
            hidden.answers("a clamper", Platehall.NONE, x -> Checks.lookOf(x, "clamper", 0));
            hidden.answers("nobody", Platehall.NONE, x -> Checks.lookOf(x, "nobody", 0));
            hidden.answers("not counted", 0, x -> {
                Checks.lookOf(x, "insurer", 0);
                Checks.lookOf(x, "clamper", 0);
                return x.looked(1);
            });
        }
        with(x -> x.protect(0, true)).answers("the owner is protected", 1, x -> Checks.lookOf(x, "clamper", 0));
        with(x -> {
            x.protect(1, true);
            x.protect(1, false);
        }).answers("protected no more", 1, x -> Checks.lookOf(x, "clamper", 0));
        with(x -> x.protect(1, true)).answers("another keeper now", 0, x -> {
            x.tell(0, Platehall.KEEPER, 0, TODAY);
            return Checks.lookOf(x, "clamper", 0);
        });
    }

    private static void counted() {
        Checks.says("All looks that see somebody are counted for that person.");
        Platehall x = SOME.one();
        int seen = 0;
        for (int i = 0; i < 50; i++) {
            String who = new String[] {"police", "insurer", "clamper", "nobody"}[i % 4];
            int answer = Checks.lookOf(x, who, 0);
            seen += i % 4 == 0 || i % 4 == 2 ? 1 : 0;
            Checks.due("look " + i, answer, i % 4 == 0 || i % 4 == 2 ? 1 : Platehall.NONE);
            Checks.due("looked behind " + i, x.looked(1), seen);
        }
        Checks.due("the other person", x.looked(0), 0);
        x.tell(1, Platehall.KEEPER, 1, TODAY);
        Checks.lookOf(x, "police", 1);
        Checks.due("by another vehicle", x.looked(1), seen + 1);
        x.tell(0, Platehall.KEEPER, 0, TODAY);
        Checks.lookOf(x, "police", 0);
        Checks.due("no keeper of it any more", x.looked(1), seen + 1);
        Checks.due("who is now", x.looked(0), 1);
        x.protect(0, true);
        Checks.lookOf(x, "police", 0);
        Checks.due("protected, by the police", x.looked(0), 2);
        Checks.lookOf(x, "clamper", 0);
        Checks.due("protected, by a clamper", x.looked(0), 2);
        Checks.thrown(x, p -> p.look(2));
        Checks.due("behind a look that was refused", x.looked(0), 2);
        x.pass(400);
        Checks.due("days later", x.looked(0), 2);
    }

    private static void look() {
        Checks.promise(27, "Looks for the keeper of a vehicle today; who looks is in the buffer.");
        SOME.answers("the police", 1, x -> Checks.lookOf(x, "police", 0));
        Checks.promise(27, "vehicle: its number");
        SOME.answers("the last vehicle", 0, x -> {
            x.tell(1, Platehall.KEEPER, 0, TODAY);
            return Checks.lookOf(x, "police", 1);
        });
        Checks.promise(27, "Returns the keeper; NONE if none is seen.");
        SOME.answers("none is there", Platehall.NONE, x -> Checks.lookOf(x, "police", 1));
        SOME.answers("none is seen", Platehall.NONE, x -> Checks.lookOf(x, "insurer", 0));
        Checks.promise(27, "Throws IndexOutOfBoundsException if there is no such vehicle");
        for (String who : new String[] {"police", "insurer", "clamper", "", "nobody"}) {
            Made typed = with(x -> Checks.typeAll(x, who));
            for (int vehicle : new int[] {-1, 2, 12, Integer.MIN_VALUE, Integer.MAX_VALUE}) {
                typed.refuses(who + " looks at " + vehicle, Checks.INDEX, x -> x.look(vehicle));
            }
        }
    }

    private static void looked() {
        Checks.promise(28, "Returns how often a person was seen by looks.");
        Made seen = with(x -> Checks.lookOf(x, "police", 0));
        seen.answers("once", 1, x -> x.looked(1));
        Checks.promise(28, "person: their number");
        seen.answers("the first person", 0, x -> x.looked(0));
        Checks.promise(28, "Returns how often.");
        seen.answers("twice", 2, x -> {
            Checks.lookOf(x, "clamper", 0);
            return x.looked(1);
        });
        seen.answers("asked twice", 1, x -> {
            x.looked(1);
            return x.looked(1);
        });
        Checks.promise(28, "Throws IndexOutOfBoundsException if there is no such person");
        for (int person : new int[] {-1, 2, 10, Integer.MIN_VALUE, Integer.MAX_VALUE}) {
            seen.refuses("looked(" + person + ")", Checks.INDEX, x -> x.looked(person));
        }
    }
}
