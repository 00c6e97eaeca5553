import java.util.function.Consumer;
import java.util.function.IntFunction;
import java.util.function.Supplier;

/**
 * What an object answers from now on. Asking may change it, so each way of asking has an object of its own, made
 * alike; none takes more than some 300 calls, as nothing is promised of an object behind its 512th.
 */
final class Views {
    private static final int MOST_OF_ANYTHING = 50;
    /** So many vehicles are asked closely; the tests do little with the others. */
    private static final int CLOSELY = 3;
    private static final int[] NEW_SERIALS = {9990, 9991, 9992, 9993, 9994, 9995, 9996, 9997, 9998, 8000, 8002, 8003};
    private static final String[] LOOKERS = {"police", "insurer", "clamper"};
    private static final String[] PAIRS = {"AA", "AB", "AC", "BA", "BB", "QZ", "AZ", "ZA", "ZZ"};
    private static final String[] PLATES = {"AA00", "AA01", "AA02", "AA03", "AB00", "BB12", "BB13", "ZZ99"};

    private enum Way {
        NUMBERS, STANDINGS, LATER, EVENTS, TESTS, INSURANCE, TAXES, SERIES, BARRED, WISHES, BUFFER_SEES,
        BUFFER_SIGHTED, BUFFER_FILLED, BUFFER_WISHED, NAMES, NAMES_IN_TIME, NAMES_TOO_LATE, LOOKS, ROOM,
        ROOM_OF_SIGHTINGS
    }

    private final Platehall x;
    private final int signs;
    private final StringBuilder all = new StringBuilder();

    private Views(Platehall x, int signs) {
        this.x = x;
        this.signs = signs;
    }

    /** All that objects answer that were made so and then called so. */
    static String of(Supplier<Platehall> make, Consumer<Platehall> call) {
        int signs = called(make, call).clear();
        StringBuilder all = new StringBuilder();
        for (Way way : Way.values()) {
            Views views = new Views(called(make, call), signs);
            views.ask(way);
            all.append(way).append(':').append(views.all).append('\n');
        }
        return all.toString();
    }

    private static Platehall called(Supplier<Platehall> make, Consumer<Platehall> call) {
        Platehall made = make.get();
        Checks.thrown(made, call);
        return made;
    }

    private void ask(Way way) {
        switch (way) {
            case NUMBERS: numbers(); break;
            case STANDINGS: standings(); break;
            case LATER: later(); break;
            case EVENTS: events(); break;
            case TESTS: tests(); break;
            case INSURANCE: insurance(); break;
            case TAXES: taxes(); break;
            case SERIES: series(); break;
            case BARRED: barred(); break;
            case WISHES: wishes(); break;
            case BUFFER_SEES: typeOn("police"); answer(() -> x.look(0)); break;
            case BUFFER_SIGHTED: answer(() -> x.seen(x.sight(5, 700))); break;
            case BUFFER_FILLED: typeOn("????"); answer(() -> x.seen(x.sight(5, 700))); break;
            case BUFFER_WISHED: answer(() -> x.wish(0)); break;
            case NAMES: names(0); break;
            case NAMES_IN_TIME: names(14); break;
            case NAMES_TOO_LATE: names(15); break;
            case LOOKS: looks(); break;
            case ROOM: room(); break;
            default: roomOfSightings(); break;
        }
    }

    private void answer(Supplier<? extends Object> call) {
        all.append(' ').append(Checks.answer(call));
    }

    /** Asks for one number behind the other until a call is refused; returns how many were not. */
    private int count(String of, IntFunction<Object> ask) {
        all.append(' ').append(of);
        for (int n = 0; n < MOST_OF_ANYTHING; n++) {
            int number = n;
            String answer = Checks.answer(() -> ask.apply(number));
            all.append(' ').append(answer);
            if (isRefusal(answer)) {
                return n;
            }
        }
        return MOST_OF_ANYTHING;
    }

    private static boolean isRefusal(String answer) {
        return answer.contains("Exception");
    }

    private int vehicles() {
        return count("vehicles", n -> x.ofVehicle(n, 0));
    }

    private int closely() {
        return Math.min(CLOSELY, vehicles());
    }

    private void numbers() {
        answer(() -> x.clear());
        count("people", n -> x.looked(n) + "/" + x.fines(n) + "/" + x.protect(n, false));
        count("seen", n -> x.seen(n));
        count("whose", n -> x.whose(n));
        int vehicles = vehicles();
        for (int vehicle = 0; vehicle < vehicles; vehicle++) {
            int asked = vehicle;
            answer(() -> x.stamped(x.ofVehicle(asked, 0)) + "/" + x.owes(asked) + "/" + x.on(asked, 0, 3));
            for (int what = 1; what <= 4; what++) {
                int part = what;
                answer(() -> x.ofVehicle(asked, part));
            }
        }
        answer(() -> x.pass(1));
    }

    private void standings() {
        int vehicles = closely();
        for (int vehicle = 0; vehicle < vehicles; vehicle++) {
            int asked = vehicle;
            for (int day = 0; day <= 60; day += 10) {
                int then = day;
                for (int what = 0; what <= 3; what++) {
                    int part = what;
                    answer(() -> x.on(asked, then, part));
                }
                answer(() -> (int) x.plate(asked, then, 3));
            }
        }
    }

    private void later() {
        int vehicles = closely();
        for (int days : new int[] {30, 400, 400}) {
            answer(() -> x.pass(days));
            for (int vehicle = 0; vehicle < vehicles; vehicle++) {
                int asked = vehicle;
                answer(() -> x.owes(asked) + "/" + x.ofVehicle(asked, 3));
            }
        }
    }

    /** From which day on events may be told, how many are there, and how many more there may be. */
    private void events() {
        int vehicles = Math.min(2, vehicles());
        for (int vehicle = 0; vehicle < vehicles; vehicle++) {
            int asked = vehicle;
            for (int day = 0; day <= 110; day++) {
                int then = day;
                answer(() -> x.tell(asked, Platehall.CLASS, 1, then));
            }
        }
    }

    /** From which day on tests may be told, how many more, and with which mileage. */
    private void tests() {
        int vehicles = Math.min(2, vehicles());
        for (int vehicle = 0; vehicle < vehicles; vehicle++) {
            int asked = vehicle;
            for (int day = 0; day <= 110; day++) {
                int then = day;
                answer(() -> x.test(asked, then, 2, then % 2));
            }
            answer(() -> x.ofVehicle(asked, 2));
        }
    }

    private void insurance() {
        int vehicles = closely();
        answer(() -> {
            int today = x.pass(1);
            for (int vehicle = 0; vehicle < vehicles; vehicle++) {
                x.tell(vehicle, Platehall.ON, 0, today);
            }
            return today;
        });
        for (int i = 0; i < 20; i++) {
            answer(() -> x.pass(400));
            for (int vehicle = 0; vehicle < vehicles; vehicle++) {
                int asked = vehicle;
                answer(() -> x.ofVehicle(asked, 3));
            }
        }
    }

    /** By new vehicles, one of each class, that have been on the road from the first day on. */
    private void taxes() {
        for (int its = 0; its <= 3; its++) {
            int rated = its;
            String made = Checks.answer(() -> x.vehicle(NEW_SERIALS[rated], 0, rated));
            all.append(' ').append(made);
            if (!isRefusal(made)) {
                int number = Integer.parseInt(made);
                answer(() -> x.tell(number, Platehall.ON, 0, 0) + "/" + x.owes(number));
                for (int i = 0; i < 10; i++) {
                    answer(() -> x.pass(400));
                    answer(() -> x.owes(number));
                }
            }
        }
    }

    private void series() {
        for (int i = 0; i < 3; i++) {
            answer(() -> x.allot(0));
            answer(() -> x.allot(1));
        }
    }

    private void barred() {
        for (String pair : PAIRS) {
            answer(() -> x.bar(pair.charAt(0), pair.charAt(1), false));
        }
    }

    private void wishes() {
        for (String plate : PLATES) {
            answer(() -> x.clear());
            Checks.typeAll(x, plate);
            answer(() -> x.wish(1));
            answer(() -> x.wish(0));
        }
    }

    /** Signs cannot be read; but what they begin can be ended. */
    private void typeOn(String word) {
        if (signs < word.length()) {
            Checks.typeAll(x, word.substring(signs));
        }
    }

    private void names(int days) {
        int people = Math.min(4, count("people", n -> x.looked(n)));
        int fines = Math.min(4, count("whose", n -> x.whose(n)));
        if (days > 0) {
            answer(() -> x.pass(days));
        }
        for (int fine = 0; fine < fines; fine++) {
            int asked = fine;
            for (int i = 0; i < 3 * people; i++) {
                int who = i % people;
                answer(() -> x.name(asked, who));
            }
        }
        count("sums", n -> x.fines(n));
    }

    private void looks() {
        int vehicles = closely();
        answer(() -> x.clear());
        for (int vehicle = 0; vehicle < vehicles; vehicle++) {
            int asked = vehicle;
            for (String who : LOOKERS) {
                Checks.typeAll(x, who);
                answer(() -> x.look(asked));
            }
        }
        count("looked", n -> x.looked(n));
    }

    private void room() {
        count("people", n -> x.person());
        count("vehicles", n -> x.vehicle(NEW_SERIALS[n % NEW_SERIALS.length], 0, 0));
        count("rates", n -> x.rate(0, 20000, 0));
        count("fines", n -> x.fine(0, 1));
        count("signs", n -> x.type('a'));
    }

    private void roomOfSightings() {
        answer(() -> x.clear());
        count("sightings", n -> {
            Checks.typeAll(x, "????");
            return x.sight(0, 0);
        });
    }
}
