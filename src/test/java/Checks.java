import java.util.function.Consumer;
import java.util.function.Supplier;

/** Counts the answers that are not as due, and ends the program with exit code 1 if there was one. */
final class Checks {
    interface Call {
        void go();
    }

    private int looked;
    private int wrong;
    private String heading = "";

    /** The test of one sentence of the document: what is wrong is told under the sentence's words. */
    void sentence(String words, Call test) {
        int before = looked;
        heading = words + ": ";
        try {
            test.go();
        } catch (RuntimeException e) {
            tell("a call out of turn threw " + e + " at " + e.getStackTrace()[0]);
        }
        if (looked == before) {
            tell("nothing was looked at");
        }
        heading = "";
    }

    void equal(String what, long got, long due) {
        looked++;
        if (got != due) {
            tell(what + " answered " + got + ", due is " + due);
        }
    }

    void yes(String what, boolean got) {
        equal(what, got ? 1 : 0, 1);
    }

    void no(String what, boolean got) {
        equal(what, got ? 1 : 0, 0);
    }

    void same(String what, String got, String due) {
        looked++;
        if (!got.equals(due)) {
            tell(what + " is\n" + got + "\ndue is\n" + due);
        }
    }

    void argument(String what, Supplier<FlipPages> made, Consumer<FlipPages> call) {
        refused(what, "java.lang.IllegalArgumentException", made, call);
    }

    void state(String what, Supplier<FlipPages> made, Consumer<FlipPages> call) {
        refused(what, "java.lang.IllegalStateException", made, call);
    }

    /** The call throws just this, and leaves the object as one that was made alike and never called so. */
    private void refused(String what, String due, Supplier<FlipPages> made, Consumer<FlipPages> call) {
        FlipPages x = made.get();
        same(what + " throws", thrown(() -> call.accept(x)), due);
        same("the state after " + what, Look.at(() -> called(made.get(), call)), Look.at(made));
    }

    private static FlipPages called(FlipPages x, Consumer<FlipPages> call) {
        thrown(() -> call.accept(x));
        return x;
    }

    void throwsNothing(String what, Call call) {
        same(what + " throws", thrown(call), "nothing");
    }

    static String thrown(Call call) {
        try {
            call.go();
            return "nothing";
        } catch (RuntimeException e) {
            return e.getClass().getName();
        }
    }

    private void tell(String text) {
        wrong++;
        System.out.println(heading + text);
    }

    void end() {
        System.out.println(looked + " looked at, " + wrong + " wrong");
        if (wrong != 0 || looked == 0) {
            System.exit(1);
        }
    }
}
