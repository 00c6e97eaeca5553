import java.util.function.Supplier;

/** Promise 29: pass. */
public final class DaysTest {
    public static void main(String[] args) {
        Platehall x = new Platehall();
        Checks.due("pass(1)", x.pass(1), 1);
        Checks.due("pass(400)", x.pass(400), 401);
        for (int day = 801; day < 20000; day += 400) {
            Checks.due("pass on", x.pass(400), day);
        }
        Checks.due("above the most", Checks.thrown(x, p -> p.pass(400)), "IllegalStateException");
        Checks.due("to the most", x.pass(399), 20000);
        Checks.due("vehicle built on the last day", x.vehicle(1, 20000, 0), 0);
        Checks.due("one more", Checks.thrown(x, p -> p.pass(1)), "IllegalStateException");
        Checks.due("insured until the last day", x.insure(0, 20000), false);
        Checks.due("tested beyond it", x.ofVehicle(0, 1), 21080);
        refused();
        Checks.end();
    }

    private static Supplier<Platehall> on(int day) {
        return () -> {
            Platehall x = new Platehall();
            x.vehicle(1, 0, 0);
            Checks.passTo(x, 0, day);
            return x;
        };
    }

    private static void refused() {
        for (int bad : new int[] {0, -1, 401, Integer.MIN_VALUE, Integer.MAX_VALUE}) {
            Checks.refuses("pass(" + bad + ")", Checks.ARGUMENT, on(60), p -> p.pass(bad));
            Checks.refuses("pass(" + bad + ") on the last day", Checks.ARGUMENT, on(20000), p -> p.pass(bad));
        }
        Checks.refuses("pass(1) on the last day", Checks.STATE, on(20000), p -> p.pass(1));
        Checks.refuses("pass(11) on day 19990", Checks.STATE, on(19990), p -> p.pass(11));
        Checks.due("pass(10) on day 19990", on(19990).get().pass(10), 20000);
    }
}
