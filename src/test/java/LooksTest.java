import java.util.function.Supplier;

/** Promises 27 and 28: look and looked. */
public final class LooksTest {
    private static final String[] WHO = {"police", "insurer", "clamper", "", "Police", "polic", "policed", "insure",
        "insurers", "clampers", "mailman", "pOlice", "policf", "xolice"};

    public static void main(String[] args) {
        whoSees();
        bufferIsTaken();
        keeperOfToday();
        protectedKeepers();
        counts();
        refused();
        Checks.end();
    }

    private static Platehall some() {
        Platehall x = new Platehall();
        x.pass(10);
        x.person();
        x.person();
        x.vehicle(1, 0, 0);
        x.tell(0, Platehall.KEEPER, 1, 3);
        x.tell(0, Platehall.OWNER, 0, 3);
        return x;
    }

    private static int look(Platehall x, String who) {
        Checks.typeAll(x, who);
        return x.look(0);
    }

    private static void whoSees() {
        int[][] ways = {{}, {Platehall.ON}, {Platehall.OFF}, {Platehall.ON, Platehall.STOLEN}, {Platehall.SCRAPPED}};
        boolean[][] sees = {{true, false, true}, {true, true, false}, {true, false, true}, {true, false, false},
            {true, false, false}};
        for (int state = 0; state < ways.length; state++) {
            for (int i = 0; i < WHO.length; i++) {
                Platehall x = some();
                for (int kind : ways[state]) {
                    x.tell(0, kind, 0, 5);
                }
                boolean is = i < 3 && sees[state][i];
                Checks.due("look of " + WHO[i] + ", state " + state, look(x, WHO[i]), is ? 1 : Platehall.NONE);
                Checks.due("looked(1) by " + WHO[i] + ", state " + state, x.looked(1), is ? 1 : 0);
                Checks.due("looked(0)", x.looked(0), 0);
            }
        }
    }

    private static void bufferIsTaken() {
        for (String who : WHO) {
            Platehall x = some();
            look(x, who);
            Checks.due("the buffer behind " + who, x.clear(), 0);
        }
        Platehall x = some();
        Checks.due("the police", look(x, "police"), 1);
        Checks.due("without anybody", x.look(0), Platehall.NONE);
        Checks.typeAll(x, "police");
        Checks.due("no vehicle", Checks.thrown(x, p -> p.look(1)), "IndexOutOfBoundsException");
        Checks.due("that left the buffer", x.look(0), 1);
    }

    private static void keeperOfToday() {
        Platehall x = new Platehall();
        x.pass(10);
        x.vehicle(1, 0, 0);
        x.person();
        x.person();
        Checks.due("without a keeper", look(x, "police"), Platehall.NONE);
        x.tell(0, Platehall.KEEPER, 0, 10);
        Checks.due("a keeper from today on", look(x, "police"), 0);
        x.tell(0, Platehall.KEEPER, 1, 9);
        Checks.due("told for yesterday", look(x, "police"), 0);
        x.tell(0, Platehall.ON, 0, 9);
        x.tell(0, Platehall.OFF, 0, 10);
        Checks.due("the state of today: an insurer", look(x, "insurer"), Platehall.NONE);
        Checks.due("the state of today: a clamper", look(x, "clamper"), 0);
        Checks.due("looked(0)", x.looked(0), 3);
        Checks.due("looked(1)", x.looked(1), 0);
    }

    private static void protectedKeepers() {
        Platehall x = some();
        x.protect(1, true);
        Checks.due("the police sees the protected", look(x, "police"), 1);
        Checks.due("a clamper does not", look(x, "clamper"), Platehall.NONE);
        x.tell(0, Platehall.ON, 0, 10);
        Checks.due("an insurer does not", look(x, "insurer"), Platehall.NONE);
        Checks.due("looked(1)", x.looked(1), 1);
        x.protect(0, true);
        x.protect(1, false);
        Checks.due("not any more", look(x, "insurer"), 1);
        Checks.due("looked(1)", x.looked(1), 2);
    }

    private static void counts() {
        Platehall x = some();
        for (int i = 0; i < 20; i++) {
            look(x, "police");
            Checks.due("looked behind " + i, x.looked(1), i + 1);
        }
        x.tell(0, Platehall.KEEPER, 0, 4);
        look(x, "police");
        Checks.due("counts stay with the person", x.looked(1), 20);
        Checks.due("and begin for another", x.looked(0), 1);
    }

    private static void refused() {
        Supplier<Platehall> make = () -> {
            Platehall x = some();
            look(x, "police");
            Checks.typeAll(x, "police");
            return x;
        };
        for (int bad : new int[] {-1, 1, Integer.MIN_VALUE, Integer.MAX_VALUE}) {
            Checks.refuses("look(" + bad + ")", Checks.INDEX, make, p -> p.look(bad));
        }
        for (int bad : new int[] {-1, 2, Integer.MIN_VALUE, Integer.MAX_VALUE}) {
            Checks.refuses("looked(" + bad + ")", Checks.INDEX, make, p -> p.looked(bad));
        }
    }
}
