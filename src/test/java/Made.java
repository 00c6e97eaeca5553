import java.util.function.Consumer;
import java.util.function.Function;
import java.util.function.Supplier;

/** Objects made alike, one for each call that is tried, and what they answer as long as none is. */
final class Made {
    private final Supplier<Platehall> make;
    private String untouched = "";

    Made(Supplier<Platehall> make) {
        this.make = make;
    }

    Platehall one() {
        return make.get();
    }

    /** That a call is taken, and answers this. */
    void answers(String call, Object want, Function<Platehall, Object> good) {
        Platehall called = make.get();
        Checks.due(call, Checks.answer(() -> good.apply(called)), String.valueOf(want));
    }

    /** That a call throws just this, and that the object answers then as one that was not called. */
    void refuses(String call, Class<? extends RuntimeException> due, Consumer<Platehall> bad) {
        Checks.due(call, Checks.thrown(make.get(), bad), due.getSimpleName());
        String[] got = Views.of(make, bad).split("\n");
        String[] want = untouchedView().split("\n");
        for (int i = 0; i < want.length; i++) {
            Checks.due(call + " changes nothing", i < got.length ? got[i] : "nothing", want[i]);
        }
    }

    private String untouchedView() {
        if (untouched.isEmpty()) {
            untouched = Views.of(make, x -> { });
        }
        return untouched;
    }
}
