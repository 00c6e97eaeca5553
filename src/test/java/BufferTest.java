/** Promises 1 to 3: a new object, type and clear. */
public final class BufferTest {
    public static void main(String[] args) {
        newObject();
        type();
        clear();
        Checks.end();
    }

    private static void newObject() {
        Platehall x = new Platehall();
        Checks.due("new: clear()", x.clear(), 0);
        Checks.due("new: looked(0)", Checks.thrown(x, p -> p.looked(0)), "IndexOutOfBoundsException");
        Checks.due("new: owes(0)", Checks.thrown(x, p -> p.owes(0)), "IndexOutOfBoundsException");
        Checks.due("new: seen(0)", Checks.thrown(x, p -> p.seen(0)), "IndexOutOfBoundsException");
        Checks.due("new: whose(0)", Checks.thrown(x, p -> p.whose(0)), "IndexOutOfBoundsException");
        Checks.due("new: vehicle built tomorrow", Checks.thrown(x, p -> p.vehicle(1, 1, 0)),
                "IllegalArgumentException");
        Checks.due("new: first vehicle", x.vehicle(1, 0, 0), 0);
        Checks.due("new: first person", x.person(), 0);
        Checks.due("new: owes", x.owes(0), 0);
        Checks.due("new: first plate", x.allot(0), 0);
        Checks.due("new: pass(1)", x.pass(1), 1);
        Platehall other = new Platehall();
        Checks.due("two objects share nothing", other.person(), 0);
        Checks.due("two objects share no days", other.pass(2), 2);
    }

    private static void type() {
        Platehall x = new Platehall();
        char[] signs = {0, 'A', 255, 256, (char) 65535, ' ', '?', 'z'};
        for (int i = 0; i < signs.length; i++) {
            Checks.due("type " + i, x.type(signs[i]), i + 1);
        }
        Checks.due("type a ninth", Checks.thrown(x, p -> p.type('A')), "IllegalStateException");
        Checks.due("eight stay", x.clear(), 8);
        Checks.due("type behind clear", x.type('A'), 1);
        Checks.refuses("type a ninth", Checks.STATE, () -> {
            Platehall full = new Platehall();
            Checks.typeAll(full, "12345678");
            return full;
        }, p -> p.type('9'));
        keepsOrder();
    }

    private static void keepsOrder() {
        Platehall x = new Platehall();
        x.vehicle(1, 0, 0);
        Checks.typeAll(x, "CD12");
        Checks.due("signs are in the order typed", x.wish(0), (2 * 26 + 3) * 100 + 12);
        Checks.due("wish took them", x.clear(), 0);
    }

    private static void clear() {
        Platehall x = new Platehall();
        x.vehicle(1, 0, 0);
        Checks.typeAll(x, "xyz");
        Checks.due("clear()", x.clear(), 3);
        Checks.due("clear() again", x.clear(), 0);
        Checks.typeAll(x, "BA07");
        Checks.due("nothing stays behind clear", x.wish(0), 2607);
    }
}
