import java.util.function.Consumer;
import java.util.function.Supplier;

/** What the tests share: checks that count what is wrong. */
final class Checks {
    static final Class<? extends RuntimeException> INDEX = IndexOutOfBoundsException.class;
    static final Class<? extends RuntimeException> ARGUMENT = IllegalArgumentException.class;
    static final Class<? extends RuntimeException> STATE = IllegalStateException.class;

    private static int wrong = 0;
    private static int made = 0;
    private static String heading = "";

    private Checks() {
    }

    private static void tellWrong(String what) {
        wrong++;
        System.out.println((heading.isEmpty() ? "" : heading + "\n  ") + what);
    }

    static void due(String call, long got, long want) {
        made++;
        if (got != want) {
            tellWrong(call + " answered " + got + ", due is " + want);
        }
    }

    static void due(String call, boolean got, boolean want) {
        due(call, got ? 1 : 0, want ? 1 : 0);
    }

    static void due(String call, String got, String want) {
        made++;
        if (!got.equals(want)) {
            tellWrong(call + " answered\n  " + got + "\ndue is\n  " + want);
        }
    }

    /** The words of the document, below "Terms", that the checks behind it are of; SentencesTest finds them here. */
    static void says(String sentence) {
        heading = sentence;
    }

    /** The same, of a promise: what it is, one of its arguments, what it returns or throws. */
    static void promise(int number, String line) {
        heading = "Promise " + number + ": " + line;
    }

    /** That the call throws just this, and that the object answers as one made alike that was not called. */
    static void refuses(String call, Class<? extends RuntimeException> due, Supplier<Platehall> make,
            Consumer<Platehall> bad) {
        new Made(make).refuses(call, due, bad);
    }

    static String thrown(Platehall x, Consumer<Platehall> call) {
        try {
            call.accept(x);
            return "nothing";
        } catch (RuntimeException e) {
            return nameOf(e);
        }
    }

    /** One that the class did not throw itself, but the library or the machine in it, is named as such. */
    static String nameOf(Throwable e) {
        StackTraceElement[] trace = e.getStackTrace();
        String by = trace.length == 0 ? "" : trace[0].getClassName();
        boolean own = by.equals("Platehall") || by.startsWith("Platehall$") || by.equals("Model");
        return e.getClass().getSimpleName() + (own ? "" : " by " + by);
    }

    static void typeAll(Platehall x, String signs) {
        for (int i = 0; i < signs.length(); i++) {
            x.type(signs.charAt(i));
        }
    }

    static int sightOf(Platehall x, String signs, int place, int minute) {
        typeAll(x, signs);
        return x.sight(place, minute);
    }

    static int wishOf(Platehall x, String signs, int vehicle) {
        typeAll(x, signs);
        return x.wish(vehicle);
    }

    static int lookOf(Platehall x, String who, int vehicle) {
        typeAll(x, who);
        return x.look(vehicle);
    }

    /** A plate as its signs, as place by place. */
    static String plateOf(Platehall x, int vehicle, int day) {
        StringBuilder signs = new StringBuilder();
        for (int place = 0; place < 4; place++) {
            char sign = x.plate(vehicle, day, place);
            signs.append(sign == 0 ? '-' : sign);
        }
        return signs.toString();
    }

    static void passTo(Platehall x, int from, int to) {
        for (int day = from; day < to; day += 400) {
            x.pass(Math.min(400, to - day));
        }
    }

    static String answer(Supplier<? extends Object> call) {
        try {
            return String.valueOf(call.get());
        } catch (RuntimeException e) {
            return nameOf(e);
        }
    }

    static void end() {
        System.out.println(wrong == 0 ? made + " answers are as due" : wrong + " answers are not as due");
        if (wrong != 0) {
            System.exit(1);
        }
    }
}
