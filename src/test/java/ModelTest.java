import java.lang.reflect.InvocationTargetException;
import java.lang.reflect.Method;
import java.util.ArrayList;
import java.util.Arrays;
import java.util.HashMap;
import java.util.List;
import java.util.Map;

/**
 * All promises: runs of calls, the same ones each time, are answered by the class as by the model. Most runs are of one
 * theme, as what several calls must bring about together comes too seldom among all of them.
 */
public final class ModelTest {
    private static final int RUNS = 2400;
    private static final int CALLS = 512;
    private static final int[] SERIALS = {0, 1, 10, 100, 1000, 9999, 1234, 11, 12, 13, 14, 15, 16, 17, 2, 5000};
    private static final int[] WILD = {-1, -2, 40, 12, 10, 9999, 20000, 20001, Integer.MIN_VALUE, Integer.MAX_VALUE};

    private static final Map<String, Method> OF_CLASS = methods(Platehall.class);
    private static final Map<String, Method> OF_MODEL = methods(Model.class);

    private enum Step {
        VEHICLE, STAMPED, PERSON, TELL, ON, ANEW, BAR, ALLOT, WISH, PLATE, RATE, TAX, TEST, INSURE, OF_VEHICLE, SIGHT,
        SEEN, FINE, NAME, WHOSE, LOOK, PASS
    }

    private static final String[] THEMES = {
        "VEHICLE STAMPED PERSON TELL TELL TELL ON ANEW BAR ALLOT WISH PLATE RATE TAX TEST INSURE OF_VEHICLE "
                + "SIGHT SIGHT SEEN FINE NAME WHOSE LOOK PASS",
        "TELL TELL ON ON ANEW ANEW PASS",
        "BAR ALLOT WISH WISH WISH PLATE SIGHT SEEN PASS",
        "TELL TELL RATE TAX TAX INSURE INSURE OF_VEHICLE OF_VEHICLE PASS PASS",
        "VEHICLE TEST TEST OF_VEHICLE OF_VEHICLE PASS",
        "TELL ALLOT SIGHT SIGHT SIGHT SEEN OF_VEHICLE OF_VEHICLE OF_VEHICLE PASS",
        "TELL TELL ALLOT SIGHT SIGHT FINE FINE NAME NAME NAME NAME WHOSE WHOSE PASS",
        "PERSON TELL TELL LOOK LOOK LOOK LOOK PASS",
    };

    private final int run;
    private final Step[] steps;
    private final List<String> plates = new ArrayList<>();
    private final StringBuilder log = new StringBuilder();
    private final Platehall x = new Platehall();
    private final Model model = new Model();
    private long seed;
    private int calls = 0;
    private int today = 0;
    private int vehicles = 0;
    private int people = 0;
    private int sightings = 0;
    private int fines = 0;
    private final int longestPass;

    private ModelTest(int run) {
        this.run = run;
        seed = run * 7919L + 17;
        longestPass = new int[] {1, 5, 20, 40, 100, 400}[run % 6];
        steps = stepsOf(THEMES[run / 6 % THEMES.length]);
    }

    public static void main(String[] args) {
        for (int run = 0; run < RUNS; run++) {
            String wrong = new ModelTest(run).goes();
            Checks.due("run " + run, wrong, "as due");
            if (!wrong.equals("as due")) {
                break;
            }
        }
        Checks.end();
    }

    private static Step[] stepsOf(String theme) {
        return Arrays.stream(theme.split(" ")).map(name -> Step.valueOf(name)).toArray(size -> new Step[size]);
    }

    private static Map<String, Method> methods(Class<?> of) {
        Map<String, Method> all = new HashMap<>();
        for (Method method : of.getMethods()) {
            all.put(method.getName(), method);
        }
        return all;
    }

    private String goes() {
        String wrong = null;
        for (int i = below(4); i >= 0 && wrong == null; i--) {
            wrong = both("vehicle", SERIALS[i], 0, below(4));
        }
        for (int i = below(4); i >= 0 && wrong == null; i--) {
            wrong = both("person");
        }
        while (calls < CALLS && wrong == null) {
            wrong = step();
        }
        return wrong == null ? "as due" : wrong + "\nbehind\n" + log;
    }

    private String step() {
        switch (steps[below(steps.length)]) {
            case VEHICLE: return both("vehicle", SERIALS[below(SERIALS.length)], day(), of(4));
            case STAMPED: return both("stamped", stampedOf(SERIALS[below(SERIALS.length)]));
            case PERSON: return below(3) == 0 ? both("person") : both("protect", of(people), below(2) == 0);
            case TELL: return tell();
            case ON: return both("on", of(vehicles), day(), of(4));
            case ANEW: return both("onAnew", of(vehicles), day(), of(4));
            case BAR: return both("bar", letter(), letter(), below(3) > 0);
            case ALLOT: return both("allot", of(vehicles));
            case WISH: return spell(wished(), "wish", of(vehicles));
            case PLATE: return both("plate", of(vehicles), day(), of(4));
            case RATE: return both("rate", of(4), below(3) > 0 ? day() / 30 * 30 : of(20001), of(100001));
            case TAX: return below(3) == 0 ? both("pay", of(vehicles), of(1000001)) : both("owes", of(vehicles));
            case TEST: return both("test", of(vehicles), below(3) > 0 ? today : day(), of(3), below(4) * 100);
            case INSURE: return both("insure", of(vehicles), below(4) == 0 ? -1 : today + below(60) - 2);
            case OF_VEHICLE: return both("ofVehicle", of(vehicles), below(2) == 0 ? of(5) : 3 + below(2));
            case SIGHT: return spell(sighted(), "sight", of(10), below(3) > 0 ? below(120) : of(1440));
            case SEEN: return both("seen", of(sightings));
            case FINE: return both("fine", of(sightings), of(100001));
            case NAME: return both("name", of(fines), of(people));
            case WHOSE: return below(2) == 0 ? both("whose", of(fines)) : both("fines", of(people));
            case LOOK: return look();
            default: return both("pass", below(9) == 0 ? of(402) : toLastDay(1 + below(longestPass)));
        }
    }

    /** Those days; but now and then just as many as are left, if they are few. */
    private int toLastDay(int days) {
        return today > 19600 && below(2) == 0 ? 20000 - today : days;
    }

    private int stampedOf(int serial) {
        return below(2) == 0 ? of(100001) : serial * 10 + below(10);
    }

    private String tell() {
        int kind = of(8);
        if (kind == Platehall.SCRAPPED && below(8) > 0) {
            kind = below(2);
        }
        int what = kind == 0 || kind == 1 ? of(people) : kind == 7 ? of(4) : below(20) == 0 ? 1 : 0;
        return both("tell", of(vehicles), kind, what, day());
    }

    private String look() {
        if (below(3) == 0) {
            return both("looked", of(people));
        }
        String[] who = {"police", "insurer", "clamper", "police ", "insure", "", "clampe?"};
        return spell(who[below(who.length)], "look", of(vehicles));
    }

    /** Now and then a plate that was allotted, or no plate. */
    private String wished() {
        StringBuilder signs = new StringBuilder();
        signs.append(letter()).append(letter()).append(below(2)).append(below(10));
        return below(6) == 0 ? doubtful(allotted()) : below(8) == 0 ? spoilt(signs) : signs.toString();
    }

    private String sighted() {
        StringBuilder signs = new StringBuilder(doubtful(allotted()));
        return below(20) == 0 ? spoilt(signs) : signs.toString();
    }

    private String allotted() {
        return plates.isEmpty() || below(10) == 0 ? "AA0" + below(10) : plates.get(below(plates.size()));
    }

    private String doubtful(String plate) {
        StringBuilder signs = new StringBuilder();
        for (int i = 0; i < plate.length(); i++) {
            signs.append(below(5) == 0 ? '?' : plate.charAt(i));
        }
        return signs.toString();
    }

    private String spoilt(StringBuilder signs) {
        if (below(2) == 0) {
            signs.setCharAt(below(4), (char) below(300));
        } else {
            signs.setLength(below(4));
        }
        return signs.toString();
    }

    private String spell(String signs, String name, Object... arguments) {
        String wrong = null;
        for (int i = 0; i < signs.length() && wrong == null; i++) {
            wrong = both("type", signs.charAt(i));
        }
        if (wrong == null) {
            wrong = both(name, arguments);
        }
        // what was refused is still in the buffer
        if (wrong == null && below(4) > 0) {
            wrong = both("clear");
        }
        return wrong;
    }

    private String both(String name, Object... arguments) {
        if (calls >= CALLS) {
            return null;
        }
        calls++;
        String got = call(OF_CLASS.get(name), x, arguments);
        String want = call(OF_MODEL.get(name), model, arguments);
        log.append(name);
        for (Object argument : arguments) {
            log.append(' ').append(argument instanceof Character sign ? (int) sign : argument);
        }
        log.append(" -> ").append(want).append('\n');
        if (!got.equals(want)) {
            return name + " in run " + run + " answered " + got + ", due is " + want;
        }
        if (!want.endsWith("Exception")) {
            follow(name, want);
        }
        return null;
    }

    /** Keeps the numbers in mind, so that most arguments are good ones. */
    private void follow(String name, String answer) {
        switch (name) {
            case "vehicle": vehicles++; break;
            case "person": people++; break;
            case "sight": sightings++; break;
            case "fine": fines++; break;
            case "pass": today = Integer.parseInt(answer); break;
            case "allot": case "wish": plates.add(Model.signs(Integer.parseInt(answer))); break;
            default: break;
        }
    }

    private static String call(Method method, Object on, Object[] arguments) {
        try {
            Object answer = method.invoke(on, arguments);
            return answer instanceof Character sign ? String.valueOf((int) sign) : String.valueOf(answer);
        } catch (InvocationTargetException e) {
            return Checks.nameOf(e.getCause());
        } catch (IllegalAccessException e) {
            return e.toString();
        }
    }

    private char letter() {
        return below(40) == 0 ? (char) below(128) : (char) ('A' + below(2));
    }

    private int day() {
        return below(3) == 0 ? today : below(30) == 0 ? today + 1 : below(today + 1);
    }

    /** One of 0 to below the number, and now and then one that is none. */
    private int of(int number) {
        if (number <= 0 || below(40) == 0) {
            return below(2) == 0 ? number : WILD[below(WILD.length)];
        }
        return below(number);
    }

    private int below(int number) {
        seed = seed * 6364136223846793005L + 1442695040888963407L;
        return (int) ((seed >>> 33) % number);
    }
}
