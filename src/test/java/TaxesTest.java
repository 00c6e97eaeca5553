/** Promises 15 to 17: rate, pay and owes. */
public final class TaxesTest {
    public static void main(String[] args) {
        months();
        ratesByDays();
        billedAnew();
        states();
        payments();
        rateRefused();
        payAndOwesRefused();
        most();
        Checks.end();
    }

    private static Platehall some() {
        Platehall x = new Platehall();
        x.vehicle(1, 0, 0);
        x.vehicle(10, 0, 3);
        x.tell(0, Platehall.ON, 0, 0);
        x.rate(0, 0, 100);
        return x;
    }

    private static void months() {
        Platehall x = some();
        Checks.due("the first month has begun", x.owes(0), 100);
        x.pass(29);
        Checks.due("on day 29", x.owes(0), 100);
        x.pass(1);
        Checks.due("on day 30", x.owes(0), 200);
        x.pass(29);
        Checks.due("on day 59", x.owes(0), 200);
        x.pass(1);
        Checks.due("on day 60", x.owes(0), 300);
        Checks.due("one that is not on the road", x.owes(1), 0);
        Checks.due("looking changes nothing", x.owes(0), 300);
    }

    private static void ratesByDays() {
        Platehall x = some();
        Checks.passTo(x, 0, 120);
        Checks.due("five months", x.owes(0), 500);
        Checks.due("a second rate", x.rate(0, 60, 10), 2);
        Checks.due("on its first day", x.owes(0), 230);
        Checks.due("a third one, ahead of that", x.rate(0, 31, 7), 3);
        Checks.due("none begins from 31 to 59", x.owes(0), 230);
        Checks.due("a fourth one of a day told", x.rate(0, 60, 20), 4);
        Checks.due("told last of one day", x.owes(0), 260);
        x.rate(0, 61, 1);
        Checks.due("from 61 on", x.owes(0), 222);
        x.rate(1, 0, 5000);
        x.rate(0, 121, 5000);
        x.rate(0, 20000, 5000);
        Checks.due("other classes and later days", x.owes(0), 222);
        x.rate(0, 30, 0);
        Checks.due("a rate of 0", x.owes(0), 122);
    }

    private static void billedAnew() {
        Platehall x = some();
        Checks.passTo(x, 0, 90);
        x.rate(2, 0, 3);
        Checks.due("four months", x.owes(0), 400);
        x.tell(0, Platehall.CLASS, 2, 30);
        Checks.due("another class from 30 on", x.owes(0), 109);
        x.tell(0, Platehall.CLASS, 1, 60);
        Checks.due("a class without a rate", x.owes(0), 103);
        x.rate(1, 61, 40);
        Checks.due("its rate is told", x.owes(0), 143);
        x.tell(1, Platehall.ON, 0, 0);
        x.rate(3, 90, 8);
        Checks.due("the class at first", x.owes(1), 8);
    }

    private static void states() {
        Platehall x = some();
        Checks.passTo(x, 0, 120);
        x.tell(0, Platehall.OFF, 0, 30);
        x.tell(0, Platehall.ON, 0, 59);
        Checks.due("off on the first day of a month", x.owes(0), 400);
        x.tell(0, Platehall.STOLEN, 0, 60);
        x.tell(0, Platehall.FOUND, 0, 61);
        Checks.due("missing on one", x.owes(0), 300);
        x.tell(0, Platehall.OFF, 0, 91);
        x.tell(0, Platehall.ON, 0, 119);
        Checks.due("off between", x.owes(0), 300);
        x.tell(0, Platehall.SCRAPPED, 0, 120);
        Checks.due("gone on one", x.owes(0), 200);
        x.tell(0, Platehall.OFF, 0, 90);
        x.tell(0, Platehall.ON, 0, 90);
        Checks.due("off and on of one day", x.owes(0), 200);
        Platehall late = new Platehall();
        late.rate(0, 0, 9);
        late.pass(31);
        late.vehicle(1, 31, 0);
        late.tell(0, Platehall.ON, 0, 31);
        Checks.due("no month has begun since", late.owes(0), 0);
        late.pass(29);
        Checks.due("on day 60 one has", late.owes(0), 9);
    }

    private static void payments() {
        Platehall x = some();
        Checks.due("pay(0, 1)", x.pay(0, 1), 99);
        Checks.due("pay(0, 99)", x.pay(0, 99), 0);
        Checks.due("pay(0, 1000000)", x.pay(0, 1000000), -1000000);
        Checks.due("owes(0)", x.owes(0), -1000000);
        x.pass(30);
        Checks.due("another month", x.owes(0), -999900);
        Checks.due("the other one paid nothing", x.owes(1), 0);
        Checks.due("pay(1, 7)", x.pay(1, 7), -7);
        x.rate(0, 0, 0);
        Checks.due("paid stays paid", x.owes(0), -1000100);
    }

    private static void rateRefused() {
        int[][] bad = {{-1, 0, 0}, {4, 0, 0}, {0, -1, 0}, {0, 20001, 0}, {0, 0, -1}, {0, 0, 100001},
            {Integer.MIN_VALUE, Integer.MAX_VALUE, Integer.MIN_VALUE}};
        for (int[] call : bad) {
            String told = "rate(" + call[0] + ", " + call[1] + ", " + call[2] + ")";
            Checks.refuses(told, Checks.ARGUMENT, TaxesTest::some, p -> p.rate(call[0], call[1], call[2]));
            Checks.refuses(told + " when full", Checks.ARGUMENT, TaxesTest::full,
                    p -> p.rate(call[0], call[1], call[2]));
        }
        Platehall x = new Platehall();
        for (int i = 0; i < 40; i++) {
            Checks.due("rate " + i, x.rate(i % 4, i * 500, 100000 - i), i + 1);
        }
        Checks.refuses("a 41st", Checks.STATE, TaxesTest::full, p -> p.rate(0, 0, 5));
        Checks.refuses("a 41st of another class", Checks.STATE, TaxesTest::full, p -> p.rate(3, 20000, 100000));
    }

    private static Platehall full() {
        Platehall x = some();
        for (int i = 1; i < 40; i++) {
            x.rate(i % 3, 0, i);
        }
        return x;
    }

    private static void payAndOwesRefused() {
        Checks.refuses("pay(0, 0)", Checks.ARGUMENT, TaxesTest::some, p -> p.pay(0, 0));
        Checks.refuses("pay(0, -1)", Checks.ARGUMENT, TaxesTest::some, p -> p.pay(0, -1));
        Checks.refuses("pay(0, 1000001)", Checks.ARGUMENT, TaxesTest::some, p -> p.pay(0, 1000001));
        Checks.refuses("pay(2, 0)", Checks.INDEX, TaxesTest::some, p -> p.pay(2, 0));
        Checks.refuses("pay(-1, 5)", Checks.INDEX, TaxesTest::some, p -> p.pay(-1, 5));
        Checks.refuses("owes(2)", Checks.INDEX, TaxesTest::some, p -> p.owes(2));
        Checks.refuses("owes(-1)", Checks.INDEX, TaxesTest::some, p -> p.owes(-1));
    }

    private static void most() {
        Platehall x = some();
        Checks.passTo(x, 0, 20000);
        x.rate(0, 0, 100000);
        Checks.due("667 months of the highest rate", x.owes(0), 66700000L);
        x.rate(0, 19980, 0);
        Checks.due("the last month", x.owes(0), 66600000L);
        long owed = 66600000L;
        for (int i = 0; i < 300; i++) {
            owed -= 1000000;
            Checks.due("pay much", x.pay(0, 1000000), owed);
        }
    }
}
