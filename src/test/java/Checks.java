import java.util.function.Consumer;
import java.util.function.Supplier;

/** What the tests share: checks that count what is wrong, and a view of all that an object answers. */
final class Checks {
    static final Class<? extends RuntimeException> INDEX = IndexOutOfBoundsException.class;
    static final Class<? extends RuntimeException> ARGUMENT = IllegalArgumentException.class;
    static final Class<? extends RuntimeException> STATE = IllegalStateException.class;

    private static int wrong = 0;
    private static int made = 0;

    private Checks() {
    }

    static void due(String call, long got, long want) {
        made++;
        if (got != want) {
            wrong++;
            System.out.println(call + " answered " + got + ", due is " + want);
        }
    }

    static void due(String call, boolean got, boolean want) {
        due(call, got ? 1 : 0, want ? 1 : 0);
    }

    static void due(String call, String got, String want) {
        made++;
        if (!got.equals(want)) {
            wrong++;
            System.out.println(call + " answered\n  " + got + "\ndue is\n  " + want);
        }
    }

    /** That the call throws just this, and that the object answers as one made alike that was not called. */
    static void refuses(String call, Class<? extends RuntimeException> due, Supplier<Platehall> make,
            Consumer<Platehall> bad) {
        Platehall called = make.get();
        due(call, thrown(called, bad), due.getSimpleName());
        due(call + " changes nothing", view(called), view(make.get()));
    }

    static String thrown(Platehall x, Consumer<Platehall> call) {
        try {
            call.accept(x);
            return "nothing";
        } catch (RuntimeException e) {
            return nameOf(e);
        }
    }

    /** One that the class did not throw itself, but the library or the machine in it, is named as such. */
    static String nameOf(Throwable e) {
        StackTraceElement[] trace = e.getStackTrace();
        String by = trace.length == 0 ? "" : trace[0].getClassName();
        boolean own = by.equals("Platehall") || by.startsWith("Platehall$") || by.equals("Model");
        return e.getClass().getSimpleName() + (own ? "" : " by " + by);
    }

    static void typeAll(Platehall x, String signs) {
        for (int i = 0; i < signs.length(); i++) {
            x.type(signs.charAt(i));
        }
    }

    /** A plate as its signs, as place by place. */
    static String plateOf(Platehall x, int vehicle, int day) {
        StringBuilder signs = new StringBuilder();
        for (int place = 0; place < 4; place++) {
            char sign = x.plate(vehicle, day, place);
            signs.append(sign == 0 ? '-' : sign);
        }
        return signs.toString();
    }

    static void passTo(Platehall x, int from, int to) {
        for (int day = from; day < to; day += 400) {
            x.pass(Math.min(400, to - day));
        }
    }

    /** All that can be asked, and what the next calls answer; it changes the object, which is not used behind it. */
    static String view(Platehall x) {
        StringBuilder all = new StringBuilder();
        all.append("signs ").append(x.clear());
        int people = count(x, n -> x.looked(n));
        int vehicles = count(x, n -> x.owes(n));
        int sightings = count(x, n -> x.seen(n));
        int fines = count(x, n -> x.whose(n));
        for (int i = 0; i < people; i++) {
            all.append("\n person ").append(x.fines(i)).append(' ').append(x.looked(i));
            all.append(' ').append(x.protect(i, false));
        }
        for (int i = 0; i < sightings; i++) {
            all.append(i == 0 ? "\n seen " : " ").append(x.seen(i));
        }
        for (int i = 0; i < fines; i++) {
            all.append(i == 0 ? "\n whose " : " ").append(x.whose(i));
        }
        for (int i = 0; i < vehicles; i++) {
            viewVehicle(x, i, all);
        }
        all.append("\n rates ").append(answer(() -> x.rate(0, 20000, 0)));
        all.append(" people ").append(answer(() -> x.person()));
        all.append(" vehicles ").append(answer(() -> x.vehicle(9990, 0, 0)));
        for (int i = 0; i < 3; i++) {
            all.append(" next ").append(answer(() -> x.allot(0)));
        }
        all.append(" day ").append(answer(() -> x.pass(1)));
        return all.toString();
    }

    private static void viewVehicle(Platehall x, int vehicle, StringBuilder all) {
        all.append("\n vehicle ").append(x.owes(vehicle));
        for (int what = 0; what < 5; what++) {
            all.append(' ').append(x.ofVehicle(vehicle, what));
        }
        for (int day = 0; day <= 60; day += 10) {
            int asked = day;
            for (int what = 0; what < 4; what++) {
                int part = what;
                all.append(' ').append(answer(() -> x.on(vehicle, asked, part)));
            }
        }
        all.append(' ').append(answer(() -> (int) x.plate(vehicle, 0, 3)));
        all.append(' ').append(answer(() -> (int) x.plate(vehicle, 10, 3)));
        all.append(" until ").append(answer(() -> x.insure(vehicle, 20000) ? 1 : 0));
    }

    static String answer(Supplier<? extends Object> call) {
        try {
            return String.valueOf(call.get());
        } catch (RuntimeException e) {
            return nameOf(e);
        }
    }

    private static int count(Platehall x, Consumer<Integer> ask) {
        for (int n = 0; n < 1000; n++) {
            int number = n;
            if (!thrown(x, same -> ask.accept(number)).equals("nothing")) {
                return n;
            }
        }
        return 1000;
    }

    static void end() {
        System.out.println(wrong == 0 ? made + " answers are as due" : wrong + " answers are not as due");
        if (wrong != 0) {
            System.exit(1);
        }
    }
}
