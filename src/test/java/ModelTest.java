import java.lang.reflect.InvocationTargetException;
import java.lang.reflect.Method;
import java.util.HashMap;
import java.util.Map;

/** All promises: runs of calls, the same ones each time, are answered by the class as by the model. */
public final class ModelTest {
    private static final int RUNS = 1500;
    private static final int CALLS = 512;
    private static final int[] SERIALS = {0, 1, 10, 100, 1000, 9999, 1234, 11, 12, 13, 14, 15, 16, 17, 2, 5000};
    private static final int[] WILD = {-1, -2, 40, 12, 10, 9999, 20000, 20001, Integer.MIN_VALUE, Integer.MAX_VALUE};

    private static final Map<String, Method> OF_CLASS = methods(Platehall.class);
    private static final Map<String, Method> OF_MODEL = methods(Model.class);

    private final int run;
    private final StringBuilder log = new StringBuilder();
    private final Platehall x = new Platehall();
    private final Model model = new Model();
    private long seed;
    private int calls = 0;
    private int today = 0;
    private int vehicles = 0;
    private int people = 0;
    private int sightings = 0;
    private int fines = 0;
    private final int longestPass;

    private ModelTest(int run) {
        this.run = run;
        seed = run * 7919L + 17;
        longestPass = new int[] {1, 5, 20, 40, 100, 400}[run % 6];
    }

    public static void main(String[] args) {
        for (int run = 0; run < RUNS; run++) {
            String wrong = new ModelTest(run).goes();
            Checks.due("run " + run, wrong, "as due");
            if (!wrong.equals("as due")) {
                break;
            }
        }
        Checks.end();
    }

    private static Map<String, Method> methods(Class<?> of) {
        Map<String, Method> all = new HashMap<>();
        for (Method method : of.getMethods()) {
            all.put(method.getName(), method);
        }
        return all;
    }

    private String goes() {
        for (int i = below(4); i >= 0; i--) {
            both("vehicle", SERIALS[i], 0, below(4));
            both("person");
        }
        while (calls < CALLS) {
            String wrong = step();
            if (wrong != null) {
                return wrong + "\nbehind\n" + log;
            }
        }
        return "as due";
    }

    private String step() {
        switch (below(24)) {
            case 0: return both("vehicle", SERIALS[below(SERIALS.length)], day(), of(4));
            case 1: return both("stamped", below(2) == 0 ? below(100) * 10 + below(10) : of(100001));
            case 2: return below(3) == 0 ? both("person") : both("protect", of(people), below(2) == 0);
            case 3: case 4: case 5: return tell();
            case 6: return both("on", of(vehicles), day(), of(4));
            case 7: return both("onAnew", of(vehicles), day(), of(4));
            case 8: return both("bar", letter(), letter(), below(3) > 0);
            case 9: return both("allot", of(vehicles));
            case 10: return spell(plateSigns(), "wish", of(vehicles));
            case 11: return both("plate", of(vehicles), day(), of(4));
            case 12: return both("rate", of(4), below(3) > 0 ? day() / 30 * 30 : of(20001), of(100001));
            case 13: return below(2) == 0 ? both("pay", of(vehicles), of(1000001)) : both("owes", of(vehicles));
            case 14: return both("test", of(vehicles), today - below(longestPass + 1), of(3), below(4) * 100);
            case 15: return both("insure", of(vehicles), below(4) == 0 ? -1 : today + below(60) - 2);
            case 16: return both("ofVehicle", of(vehicles), of(5));
            case 17: case 18: return spell(plateSigns(), "sight", of(10), below(3) > 0 ? below(120) : of(1440));
            case 19: return below(4) > 0 ? both("seen", of(sightings)) : both("whose", of(fines));
            case 20: return both("fine", of(sightings), of(100001));
            case 21: return below(3) > 0 ? both("name", of(fines), of(people)) : both("fines", of(people));
            case 22: return look();
            default: return both("pass", below(9) == 0 ? of(402) : 1 + below(longestPass));
        }
    }

    private String tell() {
        int kind = of(8);
        int what = kind == 0 || kind == 1 ? of(people) : kind == 7 ? of(4) : below(20) == 0 ? 1 : 0;
        return both("tell", of(vehicles), kind, what, day());
    }

    private String look() {
        if (below(3) == 0) {
            return both("looked", of(people));
        }
        String[] who = {"police", "insurer", "clamper", "police ", "insure", "", "clampe?"};
        return spell(who[below(who.length)], "look", of(vehicles));
    }

    private String plateSigns() {
        StringBuilder signs = new StringBuilder();
        signs.append(below(6) == 0 ? '?' : (char) letter());
        signs.append(below(6) == 0 ? '?' : (char) letter());
        signs.append(below(4) == 0 ? '?' : (char) ('0' + below(2)));
        signs.append(below(4) == 0 ? '?' : (char) ('0' + below(10)));
        if (below(15) == 0) {
            signs.setCharAt(below(4), (char) below(300));
        }
        if (below(15) == 0) {
            signs.setLength(below(4));
        }
        return signs.toString();
    }

    private String spell(String signs, String name, Object... arguments) {
        String wrong = null;
        for (int i = 0; i < signs.length() && wrong == null; i++) {
            wrong = both("type", signs.charAt(i));
        }
        if (wrong == null) {
            wrong = both(name, arguments);
        }
        if (wrong == null && below(3) > 0) {
            wrong = both("clear");
        }
        return wrong;
    }

    private String both(String name, Object... arguments) {
        if (calls >= CALLS) {
            return null;
        }
        calls++;
        String got = call(OF_CLASS.get(name), x, arguments);
        String want = call(OF_MODEL.get(name), model, arguments);
        log.append(name);
        for (Object argument : arguments) {
            log.append(' ').append(argument instanceof Character sign ? (int) sign : argument);
        }
        log.append(" -> ").append(want).append('\n');
        if (!got.equals(want)) {
            return name + " in run " + run + " answered " + got + ", due is " + want;
        }
        if (!want.endsWith("Exception")) {
            follow(name, want);
        }
        return null;
    }

    /** Keeps the numbers in mind, so that most arguments are good ones. */
    private void follow(String name, String answer) {
        switch (name) {
            case "vehicle": vehicles++; break;
            case "person": people++; break;
            case "sight": sightings++; break;
            case "fine": fines++; break;
            case "pass": today = Integer.parseInt(answer); break;
            default: break;
        }
    }

    private static String call(Method method, Object on, Object[] arguments) {
        try {
            Object answer = method.invoke(on, arguments);
            return answer instanceof Character sign ? String.valueOf((int) sign) : String.valueOf(answer);
        } catch (InvocationTargetException e) {
            return Checks.nameOf(e.getCause());
        } catch (IllegalAccessException e) {
            return e.toString();
        }
    }

    private char letter() {
        return below(40) == 0 ? (char) below(128) : (char) ('A' + below(2));
    }

    private int day() {
        return below(3) == 0 ? today : below(30) == 0 ? today + 1 : below(today + 1);
    }

    /** One of 0 to below the number, and now and then one that is none. */
    private int of(int number) {
        if (number <= 0 || below(40) == 0) {
            return below(2) == 0 ? number : WILD[below(WILD.length)];
        }
        return below(number);
    }

    private int below(int number) {
        seed = seed * 6364136223846793005L + 1442695040888963407L;
        return (int) ((seed >>> 33) % number);
    }
}
