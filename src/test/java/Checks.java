import java.util.function.Consumer;
import java.util.function.Supplier;

/** Counts the answers that are not as due, and ends the program with exit code 1 if there was one. */
final class Checks {
    interface Call {
        void go();
    }

    private int looked;
    private int wrong;

    void equal(String what, long got, long due) {
        looked++;
        if (got != due) {
            tell(what + " answered " + got + ", due is " + due);
        }
    }

    void yes(String what, boolean got) {
        equal(what, got ? 1 : 0, 1);
    }

    void no(String what, boolean got) {
        equal(what, got ? 1 : 0, 0);
    }

    void same(String what, String got, String due) {
        looked++;
        if (!got.equals(due)) {
            tell(what + " is\n" + got + "\ndue is\n" + due);
        }
    }

    void argument(String what, Supplier<FlipPages> made, Consumer<FlipPages> call) {
        refused(what, IllegalArgumentException.class, made, call);
    }

    void state(String what, Supplier<FlipPages> made, Consumer<FlipPages> call) {
        refused(what, IllegalStateException.class, made, call);
    }

    /** The call throws just this, and leaves the object as one that was made alike and never called so. */
    private void refused(String what, Class<?> due, Supplier<FlipPages> made, Consumer<FlipPages> call) {
        FlipPages x = made.get();
        String got = thrown(() -> call.accept(x));
        same(what + " throws", got, due.getName());
        same("the state after " + what, Stores.look(x), Stores.look(made.get()));
    }

    static String thrown(Call call) {
        try {
            call.go();
            return "nothing";
        } catch (RuntimeException e) {
            return e.getClass().getName();
        }
    }

    private void tell(String text) {
        wrong++;
        System.out.println(text);
    }

    void end() {
        System.out.println(looked + " looked at, " + wrong + " wrong");
        if (wrong != 0 || looked == 0) {
            System.exit(1);
        }
    }
}
