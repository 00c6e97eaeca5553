import java.util.function.Consumer;

/** The bounds that the document names of fines and whom they find: Terms, and promises 23 to 26. */
public final class FinesBoundsTest {
    private static final int TODAY = 30;
    private static final String WHOSE = "It is that of the keeper, on the day of the sighting, of the vehicle of which "
            + "that is by what is allotted now, of nobody, if there is none of either; whoever it is of may name "
            + "another person, at most 14 days behind the fine was made, or they were named, at most 3 times for each "
            + "fine.";
    private static final int[] NO_PEOPLE = {-1, 4, 10, Integer.MIN_VALUE, Integer.MAX_VALUE};

    private static final Made SOME = new Made(FinesBoundsTest::some);
    private static final Made FINED = with(x -> { });

    public static void main(String[] args) {
        numbers();
        ofAVehicle();
        keeperOfTheDay();
        nobody();
        inTime();
        threeTimes();
        anotherPerson();
        byWhatIsToldNow();
        fine();
        fineRefused();
        name();
        nameRefused();
        whoseAndFines();
        Checks.end();
    }

    /**
     * Day 30, with sightings of vehicle 0, whose keeper is person 0 from day 10 on, of 1, which has none, of several
     * and of none; four people, of whom the last one is the owner of 0.
     */
    private static Platehall some() {
        Platehall x = new Platehall();
        x.pass(TODAY);
        for (int i = 0; i < 4; i++) {
            x.person();
        }
        x.vehicle(1, 0, 0);
        x.vehicle(10, 0, 0);
        x.tell(0, Platehall.KEEPER, 0, 10);
        x.tell(0, Platehall.OWNER, 3, 10);
        x.allot(0);
        x.allot(1);
        for (String signs : new String[] {"AA00", "AA01", "AA0?", "ZZ99"}) {
            Checks.sightOf(x, signs, 0, 0);
        }
        return x;
    }

    /** With the fine 0 of person 0 and the fine 1 of nobody. */
    private static Made with(Consumer<Platehall> more) {
        return new Made(() -> {
            Platehall x = some();
            x.fine(0, 50);
            x.fine(1, 7);
            more.accept(x);
            return x;
        });
    }

    private static Made made(int fines) {
        return new Made(() -> {
            Platehall x = some();
            for (int i = 0; i < fines; i++) {
                x.fine(i % 2, i + 1);
            }
            return x;
        });
    }

    private static void numbers() {
        Checks.says("A fine is of a sighting that is of a vehicle, with an amount; fines are numbered from 0, at most "
                + "20.");
        for (int there = 0; there < 20; there++) {
            int number = there;
            made(there).answers("the fine behind " + there, number, x -> x.fine(0, 5));
            made(there).refuses("whose(" + there + ") ahead of it", Checks.INDEX, x -> x.whose(number));
            made(there + 1).answers("whose(" + there + ") behind it", there % 2 == 0 ? 0 : Platehall.NONE,
                    x -> x.whose(number));
        }
        made(20).refuses("a 21st", Checks.STATE, x -> x.fine(0, 5));
        made(20).refuses("a 21st of nobody", Checks.STATE, x -> x.fine(1, 5));
        made(20).refuses("whose(20)", Checks.INDEX, x -> x.whose(20));
        made(20).answers("the amounts", 100, x -> x.fines(0));
    }

    private static void ofAVehicle() {
        SOME.answers("of a vehicle", 0, x -> x.fine(0, 5));
        SOME.answers("of a vehicle without a keeper", 0, x -> x.fine(1, 5));
        SOME.refuses("of several", Checks.STATE, x -> x.fine(2, 5));
        SOME.refuses("of none", Checks.STATE, x -> x.fine(3, 5));
        SOME.answers("of one of several now", 0, x -> {
            x.pass(1);
            x.allot(0);
            Checks.sightOf(x, "AA0?", 0, 0);
            Checks.thrown(x, p -> p.fine(4, 5));
            Checks.wishOf(x, "BB00", 1);
            return x.fine(4, 5);
        });
        new Made(() -> {
            Platehall x = some();
            x.allot(0);
            return x;
        }).refuses("of none any more", Checks.STATE, x -> x.fine(0, 5));
    }

    private static void keeperOfTheDay() {
        Checks.says(WHOSE);
        FINED.answers("the keeper, not the owner", 0, x -> x.whose(0));
        for (int day : new int[] {10, 11, TODAY - 1, TODAY}) {
            FINED.answers("a keeper from day " + day, 2, x -> {
                x.tell(0, Platehall.KEEPER, 2, day);
                return x.whose(0);
            });
        }
        FINED.answers("a keeper from the day behind the sighting", 0, x -> {
            x.pass(1);
            x.tell(0, Platehall.KEEPER, 2, TODAY + 1);
            return x.whose(0);
        });
        FINED.answers("one told later for the day of the sighting", 2, x -> {
            x.pass(400);
            x.tell(0, Platehall.KEEPER, 2, TODAY);
            return x.whose(0);
        });
        FINED.answers("a fine made days behind the sighting", 0, x -> {
            x.pass(1);
            x.tell(0, Platehall.KEEPER, 2, TODAY + 1);
            return x.whose(x.fine(0, 5));
        });
        FINED.answers("of a vehicle that is gone", 0, x -> {
            x.tell(0, Platehall.SCRAPPED, 0, 0);
            return x.whose(0);
        });
    }

    private static void nobody() {
        FINED.answers("a vehicle without a keeper", Platehall.NONE, x -> x.whose(1));
        FINED.answers("one that had none on the day", Platehall.NONE, x -> {
            x.pass(1);
            x.tell(1, Platehall.KEEPER, 1, TODAY + 1);
            return x.whose(1);
        });
        FINED.answers("one that had an owner alone", Platehall.NONE, x -> {
            x.tell(1, Platehall.OWNER, 1, TODAY);
            return x.whose(1);
        });
        FINED.answers("no vehicle any more", Platehall.NONE, x -> {
            x.allot(0);
            return x.whose(0);
        });
        FINED.answers("another vehicle by now", 1, x -> {
            Checks.sightOf(x, "AA?1", 0, 0);
            x.fine(4, 5);
            x.allot(1);
            Checks.wishOf(x, "AA51", 0);
            x.tell(0, Platehall.KEEPER, 1, TODAY);
            return x.whose(2);
        });
        FINED.refuses("nobody names", Checks.STATE, x -> x.name(1, 1));
        with(x -> x.allot(0)).refuses("nobody names any more", Checks.STATE, x -> x.name(0, 1));
    }

    private static void inTime() {
        Checks.says(WHOSE);
        for (int days : new int[] {1, 13, 14}) {
            with(x -> x.pass(days)).answers(days + " days behind it was made", 0, x -> x.name(0, 1));
            with(x -> {
                x.pass(14);
                x.name(0, 1);
                x.pass(days);
            }).answers(days + " days behind they were named", 1, x -> x.name(0, 2));
        }
        FINED.answers("on the day it was made", 0, x -> x.name(0, 1));
        for (int days : new int[] {15, 16, 400}) {
            with(x -> x.pass(days)).refuses(days + " days behind it was made", Checks.STATE, x -> x.name(0, 1));
            with(x -> {
                x.pass(14);
                x.name(0, 1);
                x.pass(days);
            }).refuses(days + " days behind they were named", Checks.STATE, x -> x.name(0, 2));
        }
        with(x -> {
            x.pass(14);
            x.name(0, 1);
            x.pass(14);
            x.name(0, 2);
            x.pass(14);
        }).answers("a third time", 2, x -> x.name(0, 3));
        with(x -> {
            x.pass(10);
            x.name(0, 1);
            x.pass(5);
        }).answers("late behind the fine, not behind the naming", 1, x -> x.name(0, 2));
        with(x -> {
            x.pass(20);
            x.fine(0, 5);
        }).answers("late behind the sighting, not behind the fine", 0, x -> x.name(2, 1));
        with(x -> {
            x.pass(20);
            x.fine(0, 5);
        }).refuses("late behind the first fine of it", Checks.STATE, x -> x.name(0, 1));
        with(x -> {
            x.pass(15);
            x.tell(1, Platehall.KEEPER, 2, TODAY);
        }).refuses("a keeper told late", Checks.STATE, x -> x.name(1, 1));
        with(x -> {
            x.pass(14);
            x.tell(1, Platehall.KEEPER, 2, TODAY);
        }).answers("a keeper told in time", 2, x -> x.name(1, 1));
    }

    private static void threeTimes() {
        Checks.says(WHOSE);
        Consumer<Platehall> twice = x -> {
            x.name(0, 1);
            x.name(0, 2);
        };
        with(twice).answers("a third time", 2, x -> x.name(0, 3));
        with(twice).answers("a third time, back to the keeper", 2, x -> x.name(0, 0));
        Made thrice = with(twice.andThen(x -> x.name(0, 3)));
        for (int person = 0; person < 4; person++) {
            int who = person;
            thrice.refuses("a fourth time, of " + person, Checks.STATE, x -> x.name(0, who));
        }
        with(twice.andThen(x -> x.name(0, 0))).refuses("a fourth time, of the keeper's", Checks.STATE,
                x -> x.name(0, 1));
        thrice.answers("another fine", 0, x -> x.name(x.fine(0, 5), 1));
        thrice.answers("those refused do not count", 2, x -> {
            int fine = x.fine(0, 5);
            x.name(fine, 1);
            Checks.thrown(x, p -> p.name(fine, 1));
            Checks.thrown(x, p -> p.name(fine, 4));
            x.name(fine, 2);
            return x.name(fine, 3);
        });
    }

    private static void anotherPerson() {
        Checks.says(WHOSE);
        FINED.refuses("themselves", Checks.STATE, x -> x.name(0, 0));
        with(x -> x.name(0, 2)).refuses("themselves, who were named", Checks.STATE, x -> x.name(0, 2));
        with(x -> x.name(0, 2)).answers("who named them", 2, x -> x.name(0, 0));
        with(x -> {
            x.name(0, 2);
            x.name(0, 0);
        }).refuses("themselves, who are the keeper and were named", Checks.STATE, x -> x.name(0, 0));
        FINED.answers("the owner", 0, x -> x.name(0, 3));
        with(x -> x.protect(0, true)).answers("who is protected names", 0, x -> x.name(0, 1));
        with(x -> x.protect(1, true)).answers("who is protected is named", 0, x -> x.name(0, 1));
    }

    private static void byWhatIsToldNow() {
        Checks.says("The keeper is that by what is told now, as long as nobody was named.");
        FINED.answers("nobody was named", 2, x -> {
            x.tell(0, Platehall.KEEPER, 2, TODAY);
            return x.whose(0);
        });
        FINED.answers("told twice", 1, x -> {
            x.tell(0, Platehall.KEEPER, 2, TODAY);
            x.tell(0, Platehall.KEEPER, 1, TODAY);
            return x.whose(0);
        });
        with(x -> x.name(0, 1)).answers("somebody was named", 1, x -> {
            x.tell(0, Platehall.KEEPER, 2, TODAY);
            return x.whose(0);
        });
        with(x -> x.name(0, 1)).answers("somebody was named, and it is of no vehicle now", 1, x -> {
            x.allot(0);
            return x.whose(0);
        });
        with(x -> x.name(0, 1)).answers("who may name still", 1, x -> {
            x.allot(0);
            return x.name(0, 2);
        });
        FINED.answers("who is told as the keeper names", 2, x -> {
            x.tell(0, Platehall.KEEPER, 2, TODAY);
            return x.name(0, 0);
        });
        with(x -> x.tell(0, Platehall.KEEPER, 2, TODAY)).refuses("and not themselves", Checks.STATE,
                x -> x.name(0, 2));
        with(x -> x.name(0, 1)).answers("another fine of the sighting", 2, x -> {
            x.tell(0, Platehall.KEEPER, 2, TODAY);
            return x.whose(x.fine(0, 5));
        });
    }

    private static void fine() {
        Checks.promise(23, "Makes a fine.");
        SOME.answers("it is there", 5, x -> {
            x.fine(0, 5);
            return x.fines(0);
        });
        Checks.promise(23, "sighting: its number");
        SOME.answers("the first sighting", 0, x -> x.fine(0, 5));
        SOME.answers("the last sighting", 0, x -> {
            Checks.sightOf(x, "AA00", 9, 1439);
            return x.fine(4, 5);
        });
        Checks.promise(23, "amount: 1 to 100000");
        for (int amount : new int[] {1, 2, 99999, 100000}) {
            SOME.answers("an amount of " + amount, amount, x -> {
                x.fine(0, amount);
                return x.fines(0);
            });
        }
        Checks.promise(23, "Returns the number of the fine.");
        made(19).answers("the 20th", 19, x -> x.fine(0, 5));
    }

    private static void fineRefused() {
        Checks.promise(23, "Throws IndexOutOfBoundsException if there is no such sighting");
        for (int sighting : new int[] {-1, 4, 40, Integer.MIN_VALUE, Integer.MAX_VALUE}) {
            made(19).refuses("of the sighting " + sighting, Checks.INDEX, x -> x.fine(sighting, 5));
            made(20).refuses("and a bad amount", Checks.INDEX, x -> x.fine(sighting, 0));
        }
        Checks.promise(23, "Throws IllegalArgumentException if amount is out of range");
        for (int amount : new int[] {0, -1, 100001, Integer.MIN_VALUE, Integer.MAX_VALUE}) {
            made(19).refuses("an amount of " + amount, Checks.ARGUMENT, x -> x.fine(0, amount));
            made(19).refuses("and of no vehicle", Checks.ARGUMENT, x -> x.fine(3, amount));
            made(20).refuses("and there are 20", Checks.ARGUMENT, x -> x.fine(0, amount));
        }
        Checks.promise(23, "Throws IllegalStateException if it is of no vehicle, or there are 20");
        made(19).refuses("of none", Checks.STATE, x -> x.fine(3, 5));
        made(19).refuses("of several", Checks.STATE, x -> x.fine(2, 5));
        made(20).refuses("there are 20", Checks.STATE, x -> x.fine(0, 5));
        made(20).refuses("both", Checks.STATE, x -> x.fine(3, 5));
    }

    private static void name() {
        Checks.promise(24, "Names another person for a fine.");
        FINED.answers("it is theirs", 50, x -> {
            x.name(0, 3);
            return x.fines(3);
        });
        Checks.promise(24, "fine: its number");
        made(20).answers("the first fine", 0, x -> x.name(0, 1));
        made(19).answers("the last fine", 0, x -> x.name(18, 1));
        Checks.promise(24, "person: whose it is then");
        for (int person = 1; person < 4; person++) {
            int who = person;
            FINED.answers("whose, named " + person, who, x -> {
                x.name(0, who);
                return x.whose(0);
            });
        }
        Checks.promise(24, "Returns whose it was.");
        FINED.answers("the keeper's", 0, x -> x.name(0, 3));
        with(x -> x.name(0, 3)).answers("that of who was named", 3, x -> x.name(0, 1));
    }

    private static void nameRefused() {
        Checks.promise(24, "Throws IndexOutOfBoundsException if there is no such fine or person");
        for (int fine : new int[] {-1, 2, 20, Integer.MIN_VALUE, Integer.MAX_VALUE}) {
            FINED.refuses("the fine " + fine, Checks.INDEX, x -> x.name(fine, 1));
            FINED.refuses("and no such person", Checks.INDEX, x -> x.name(fine, 4));
        }
        for (int person : NO_PEOPLE) {
            FINED.refuses("the person " + person, Checks.INDEX, x -> x.name(0, person));
            FINED.refuses("and it is of nobody", Checks.INDEX, x -> x.name(1, person));
            with(x -> x.pass(15)).refuses("and it is too late", Checks.INDEX, x -> x.name(0, person));
        }
        Checks.promise(24, "Throws IllegalStateException if it is of nobody, or of that person, it is too late, or "
                + "three were named");
        FINED.refuses("of nobody", Checks.STATE, x -> x.name(1, 0));
        FINED.refuses("of that person", Checks.STATE, x -> x.name(0, 0));
        with(x -> x.pass(15)).refuses("too late", Checks.STATE, x -> x.name(0, 1));
        with(x -> {
            x.name(0, 1);
            x.name(0, 2);
            x.name(0, 1);
        }).refuses("three were named", Checks.STATE, x -> x.name(0, 2));
    }

    private static void whoseAndFines() {
        Checks.promise(25, "Returns whose a fine is.");
        FINED.answers("whose(0)", 0, x -> x.whose(0));
        Checks.promise(25, "fine: its number");
        made(20).answers("whose(19)", Platehall.NONE, x -> x.whose(19));
        made(20).answers("whose(18)", 0, x -> x.whose(18));
        Checks.promise(25, "Returns the person; NONE if it is of nobody.");
        FINED.answers("whose(1)", Platehall.NONE, x -> x.whose(1));
        Checks.promise(25, "Throws IndexOutOfBoundsException if there is no such fine");
        for (int fine : new int[] {-1, 2, 20, Integer.MIN_VALUE, Integer.MAX_VALUE}) {
            FINED.refuses("whose(" + fine + ")", Checks.INDEX, x -> x.whose(fine));
        }
        SOME.refuses("whose(0) of none at all", Checks.INDEX, x -> x.whose(0));
        Checks.promise(26, "Returns the sum of a person's fines.");
        made(3).answers("two of them", 4, x -> x.fines(0));
        Checks.promise(26, "person: their number");
        made(3).answers("the last person", 0, x -> x.fines(3));
        Checks.promise(26, "Returns the sum.");
        SOME.answers("of none", 0, x -> x.fines(0));
        with(x -> x.name(0, 1)).answers("of the one named", 50, x -> x.fines(1));
        with(x -> x.name(0, 1)).answers("of the one who named", 0, x -> x.fines(0));
        SOME.answers("the most that there can be", 2000000, x -> {
            for (int i = 0; i < 20; i++) {
                x.fine(0, 100000);
            }
            return x.fines(0);
        });
        Checks.promise(26, "Throws IndexOutOfBoundsException if there is no such person");
        for (int person : NO_PEOPLE) {
            FINED.refuses("fines(" + person + ")", Checks.INDEX, x -> x.fines(person));
        }
    }
}
