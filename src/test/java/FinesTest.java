/** Promises 23 to 26: fine, name, whose and fines. */
public final class FinesTest {
    public static void main(String[] args) {
        fine();
        fineRefused();
        fineFull();
        whoseByWhatIsTold();
        whoseByWhatIsAllotted();
        name();
        nameInTime();
        nameRefused();
        sums();
        unknownNumbers();
        Checks.end();
    }

    /** Day 30; vehicle 0 has AA00 and person 0 as its keeper from day 10 on; 1 has AA01 and no keeper. */
    private static Platehall some() {
        Platehall x = new Platehall();
        x.pass(30);
        for (int i = 0; i < 4; i++) {
            x.person();
        }
        x.vehicle(1, 0, 0);
        x.vehicle(10, 0, 0);
        x.tell(0, Platehall.KEEPER, 0, 10);
        x.tell(0, Platehall.OWNER, 3, 10);
        x.allot(0);
        x.allot(1);
        sightOf(x, "AA00");
        sightOf(x, "AA01");
        sightOf(x, "AA0?");
        return x;
    }

    private static void sightOf(Platehall x, String signs) {
        Checks.typeAll(x, signs);
        x.sight(0, 0);
    }

    private static Platehall fined() {
        Platehall x = some();
        x.fine(0, 50);
        x.fine(1, 7);
        return x;
    }

    private static void fine() {
        Platehall x = some();
        Checks.due("the first", x.fine(0, 1), 0);
        Checks.due("the second, of the same", x.fine(0, 100000), 1);
        Checks.due("one of nobody", x.fine(1, 5), 2);
        Checks.due("whose(0)", x.whose(0), 0);
        Checks.due("whose(1)", x.whose(1), 0);
        Checks.due("whose(2)", x.whose(2), Platehall.NONE);
        x.pass(400);
        Checks.due("of a sighting long ago", x.fine(0, 5), 3);
        Checks.due("whose(3)", x.whose(3), 0);
    }

    private static void fineRefused() {
        Checks.refuses("fine(0, 0)", Checks.ARGUMENT, FinesTest::fined, p -> p.fine(0, 0));
        Checks.refuses("fine(0, -1)", Checks.ARGUMENT, FinesTest::fined, p -> p.fine(0, -1));
        Checks.refuses("fine(0, 100001)", Checks.ARGUMENT, FinesTest::fined, p -> p.fine(0, 100001));
        Checks.refuses("fine(2, 0)", Checks.ARGUMENT, FinesTest::fined, p -> p.fine(2, 0));
        Checks.refuses("fine(2, 5): of several", Checks.STATE, FinesTest::fined, p -> p.fine(2, 5));
        Checks.refuses("fine(3, 0)", Checks.INDEX, FinesTest::fined, p -> p.fine(3, 0));
        Checks.refuses("fine(-1, 5)", Checks.INDEX, FinesTest::fined, p -> p.fine(-1, 5));
        Platehall x = fined();
        sightOf(x, "ZZ??");
        Checks.due("of none", Checks.thrown(x, p -> p.fine(3, 5)), "IllegalStateException");
    }

    private static Platehall full() {
        Platehall x = some();
        for (int i = 0; i < 20; i++) {
            x.fine(i % 2, i + 1);
        }
        return x;
    }

    private static void fineFull() {
        Platehall x = some();
        for (int i = 0; i < 20; i++) {
            Checks.due("fine " + i, x.fine(0, 100000), i);
        }
        Checks.due("the most", x.fines(0), 2000000);
        Checks.refuses("a 21st", Checks.STATE, FinesTest::full, p -> p.fine(0, 5));
        Checks.refuses("a 21st of no vehicle", Checks.STATE, FinesTest::full, p -> p.fine(2, 5));
        Checks.refuses("a 21st of nothing", Checks.ARGUMENT, FinesTest::full, p -> p.fine(0, 0));
    }

    private static void whoseByWhatIsTold() {
        Platehall x = fined();
        x.tell(0, Platehall.KEEPER, 2, 30);
        Checks.due("another keeper on the day of the sighting", x.whose(0), 2);
        x.pass(1);
        x.tell(0, Platehall.KEEPER, 1, 31);
        Checks.due("a keeper of a later day", x.whose(0), 2);
        x.tell(1, Platehall.KEEPER, 3, 31);
        Checks.due("none on the day", x.whose(1), Platehall.NONE);
        x.tell(1, Platehall.KEEPER, 1, 0);
        Checks.due("one told late", x.whose(1), 1);
        Checks.due("fines(2)", x.fines(2), 50);
        Checks.due("fines(0)", x.fines(0), 0);
        Checks.due("fines(1)", x.fines(1), 7);
    }

    private static void whoseByWhatIsAllotted() {
        Platehall x = fined();
        x.allot(0);
        Checks.due("its plate was not the last of the day", x.whose(0), Platehall.NONE);
        Checks.due("fines(0)", x.fines(0), 0);
        Checks.due("nobody can name", Checks.thrown(x, p -> p.name(0, 1)), "IllegalStateException");
        sightOf(x, "AA02");
        x.fine(3, 9);
        Checks.due("by the newer one", x.whose(2), 0);
        Checks.due("name(2, 1)", x.name(2, 1), 0);
        x.allot(0);
        Checks.due("who was named stays", x.whose(2), 1);
    }

    private static void name() {
        Platehall x = fined();
        Checks.due("the keeper names", x.name(0, 2), 0);
        Checks.due("whose it is", x.whose(0), 2);
        x.tell(0, Platehall.KEEPER, 3, 20);
        Checks.due("the keeper does not matter now", x.whose(0), 2);
        Checks.due("who was named names", x.name(0, 0), 2);
        Checks.due("who was it ahead", x.whose(0), 0);
        Checks.due("a third time", x.name(0, 3), 0);
        Checks.due("whose it is", x.whose(0), 3);
        Checks.due("a fourth time", Checks.thrown(x, p -> p.name(0, 1)), "IllegalStateException");
        Checks.due("whose it is", x.whose(0), 3);
        Checks.due("fines(3)", x.fines(3), 50);
        Checks.due("fines(0)", x.fines(0), 0);
        x.fine(0, 1);
        Checks.due("another fine of the same sighting", x.whose(2), 3);
        Checks.due("names anew", x.name(2, 1), 3);
    }

    private static void nameInTime() {
        Platehall x = fined();
        x.pass(14);
        Checks.due("14 days behind", x.name(0, 1), 0);
        x.pass(14);
        Checks.due("14 days behind that", x.name(0, 2), 1);
        x.pass(15);
        Checks.due("15 days behind that", Checks.thrown(x, p -> p.name(0, 3)), "IllegalStateException");
        Checks.due("whose it stays", x.whose(0), 2);
        Platehall late = fined();
        late.pass(15);
        Checks.due("15 days behind the fine", Checks.thrown(late, p -> p.name(0, 1)), "IllegalStateException");
        late.fine(0, 3);
        Checks.due("behind the fine, not the sighting", late.name(2, 1), 0);
    }

    private static Platehall late() {
        Platehall x = fined();
        x.pass(15);
        return x;
    }

    private static Platehall thrice() {
        Platehall x = fined();
        x.name(0, 1);
        x.name(0, 2);
        x.name(0, 1);
        return x;
    }

    private static void nameRefused() {
        Checks.refuses("name of nobody's", Checks.STATE, FinesTest::fined, p -> p.name(1, 1));
        Checks.refuses("name oneself", Checks.STATE, FinesTest::fined, p -> p.name(0, 0));
        Checks.refuses("name too late", Checks.STATE, FinesTest::late, p -> p.name(0, 1));
        Checks.refuses("name a fourth", Checks.STATE, FinesTest::thrice, p -> p.name(0, 3));
        Checks.refuses("name(-1, 0)", Checks.INDEX, FinesTest::fined, p -> p.name(-1, 0));
        Checks.refuses("name(2, 0)", Checks.INDEX, FinesTest::fined, p -> p.name(2, 0));
        Checks.refuses("name(0, 4)", Checks.INDEX, FinesTest::fined, p -> p.name(0, 4));
        Checks.refuses("name(0, -1)", Checks.INDEX, FinesTest::fined, p -> p.name(0, -1));
        Checks.refuses("name nobody of nobody's", Checks.INDEX, FinesTest::fined, p -> p.name(1, Platehall.NONE));
    }

    private static void sums() {
        Platehall x = full();
        int even = 0;
        for (int i = 0; i < 20; i += 2) {
            even += i + 1;
        }
        Checks.due("all of the keeper", x.fines(0), even);
        Checks.due("the owner has none", x.fines(3), 0);
        x.name(2, 3);
        Checks.due("one fewer", x.fines(0), even - 3);
        Checks.due("one", x.fines(3), 3);
        x.tell(1, Platehall.KEEPER, 0, 30);
        Checks.due("and those of the other vehicle", x.fines(0), 210 - 3);
    }

    private static void unknownNumbers() {
        for (int bad : new int[] {-1, 4, Integer.MIN_VALUE, Integer.MAX_VALUE}) {
            Checks.refuses("fines(" + bad + ")", Checks.INDEX, FinesTest::fined, p -> p.fines(bad));
            Checks.refuses("whose(" + bad + ")", Checks.INDEX, FinesTest::fined, p -> p.whose(bad));
        }
        Checks.refuses("whose(2)", Checks.INDEX, FinesTest::fined, p -> p.whose(2));
    }
}
