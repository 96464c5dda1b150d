import java.util.List;
import java.util.Random;
import java.util.function.Consumer;
import java.util.function.ToIntFunction;

/** 'An object is used for at most 512 calls after it has been made': the 512th answers as the first does. */
public final class CallLimitTest {
    private static final Checks CHECKS = new Checks();
    private static final int LIMIT = 512;

    private static final List<ToIntFunction<FlipPages>> CALLS = List.of(
            x -> x.write(15, 0, 7),
            x -> x.fill(15, 1, 2),
            x -> x.read(0, 0, false),
            x -> x.spill(1),
            x -> x.commit(false),
            x -> x.commit(true),
            FlipPages::abort,
            FlipPages::flush,
            x -> x.fail(1) ? 1 : 0,
            x -> x.damage(0, 4, 9),
            x -> x.disk(0, 4),
            x -> x.place(1, 2),
            x -> x.free(3) ? 1 : 0,
            x -> x.held(0, 0),
            x -> x.total(2));

    public static void main(String[] args) {
        CHECKS.sentence("512 calls, each kind of call the last", CallLimitTest::anyCallAsTheLast);
        CHECKS.sentence("512 writes", CallLimitTest::writes);
        CHECKS.sentence("512 fills", CallLimitTest::fills);
        CHECKS.sentence("512 calls, half of them commits", CallLimitTest::commits);
        CHECKS.sentence("512 calls, half of them aborts", CallLimitTest::aborts);
        CHECKS.sentence("512 calls, half of them spills", CallLimitTest::spills);
        CHECKS.sentence("512 calls, a third of them fails", CallLimitTest::fails);
        CHECKS.sentence("512 refused calls", CallLimitTest::refusals);
        CHECKS.sentence("calls behind the 512th throw nothing of their own", CallLimitTest::laterCalls);
        CHECKS.end();
    }

    private static void anyCallAsTheLast() {
        for (int n = 0; n < CALLS.size(); n++) {
            FlipPages x = Stores.spilled();
            // Three calls have made it what it is.
            for (int calls = 3; calls < LIMIT - 1; calls++) {
                x.total(calls % 8);
            }
            int due = CALLS.get(n).applyAsInt(Stores.spilled());
            CHECKS.equal("kind " + n + " of call", CALLS.get(n).applyAsInt(x), due);
        }
    }

    private static void writes() {
        FlipPages x = new FlipPages();
        for (int n = 0; n < LIMIT; n++) {
            int round = n / 256;
            int before = round == 0 ? 0 : n % 256 ^ 85;
            CHECKS.equal("write " + n, x.write(n % 16, n / 16 % 16, n % 256 ^ 85), before);
        }
    }

    private static void fills() {
        FlipPages x = new FlipPages();
        for (int n = 0; n < LIMIT; n++) {
            CHECKS.equal("fill " + n, x.fill(n % 16, n, -n), Math.min(n + 1, 16));
        }
    }

    /** The 256th commit, the last call, is the one whose generation goes into a second byte. */
    private static void commits() {
        FlipPages x = new FlipPages();
        for (int n = 1; n <= LIMIT / 2; n++) {
            CHECKS.equal("write " + n, x.write(n % 16, 3, n % 256), n <= 16 ? 0 : n - 16);
            CHECKS.equal("commit " + n, x.commit(n % 3 == 0), n);
        }
    }

    private static void aborts() {
        FlipPages x = new FlipPages();
        for (int n = 1; n <= LIMIT / 2; n++) {
            CHECKS.equal("fill " + n, x.fill(n % 16, n, n), 1);
            CHECKS.equal("abort " + n, x.abort(), 1);
        }
    }

    /** A flush comes in place of a write before a spill would be refused. */
    private static void spills() {
        FlipPages x = new FlipPages();
        int held = 0;
        for (int calls = 0; calls < LIMIT; calls += 2) {
            if (held == 60) {
                CHECKS.equal("flush", x.flush(), 60);
                CHECKS.equal("held back", x.total(0), 0);
                held = 0;
            } else {
                x.write(calls % 16, 0, calls % 256);
                held++;
                CHECKS.equal("spill", x.spill(calls % 16), held);
            }
        }
    }

    private static void fails() {
        FlipPages x = new FlipPages();
        for (int n = 0; n < LIMIT / 3; n++) {
            int before = n / 2 % 256;
            CHECKS.equal("write " + n, x.write(0, 0, before + 1), before);
            CHECKS.equal("commit " + n, x.commit(false), n / 2 + 1);
            CHECKS.yes("fail " + n, x.fail(n % 2));
        }
    }

    private static void refusals() {
        FlipPages x = new FlipPages();
        for (int n = 0; n < LIMIT - 2; n++) {
            int b = n % 2 == 0 ? -1 : 256;
            CHECKS.same("write", Checks.thrown(() -> x.write(0, 0, b)), "java.lang.IllegalArgumentException");
        }
        CHECKS.equal("pages changed", x.total(1), FlipPages.NONE);
        CHECKS.equal("the last call", x.write(0, 0, 255), 0);
    }

    /** What they answer is free, but an exception that the document does not name is never due. */
    private static void laterCalls() {
        Random random = new Random(512);
        FlipPages x = new FlipPages();
        for (int calls = 0; calls < 200_000; calls++) {
            Consumer<FlipPages> call = anyCall(random);
            String thrown = Checks.thrown(() -> call.accept(x));
            boolean named = thrown.equals("nothing") || thrown.equals("java.lang.IllegalArgumentException")
                    || thrown.equals("java.lang.IllegalStateException");
            CHECKS.yes("call " + calls + ", which threw " + thrown, named);
        }
    }

    private static Consumer<FlipPages> anyCall(Random random) {
        // Where the row is seldom emptied it gets full.
        return random.nextInt(3000) < 3 ? anyEnd(random) : anyChangeOrLook(random);
    }

    private static Consumer<FlipPages> anyEnd(Random random) {
        long done = random.nextLong();
        boolean sure = random.nextBoolean();
        return switch (random.nextInt(6)) {
            case 0 -> x -> x.fail(done);
            case 1 -> FlipPages::abort;
            case 2 -> FlipPages::flush;
            case 3 -> FlipPages::format;
            default -> x -> x.commit(sure);
        };
    }

    private static Consumer<FlipPages> anyChangeOrLook(Random random) {
        int a = anyNumber(random);
        int b = anyNumber(random);
        int c = anyNumber(random);
        long w = random.nextLong();
        boolean yes = random.nextBoolean();
        return switch (random.nextInt(15)) {
            case 0 -> x -> x.damage(a, b, c);
            case 1 -> x -> x.held(a, b);
            case 2 -> x -> x.total(a);
            case 3 -> x -> x.place(a, b);
            case 4 -> x -> x.free(a);
            case 5 -> x -> x.disk(a, b);
            case 6 -> x -> x.read(a, b, yes);
            case 7 -> x -> x.fill(a, w, -w);
            case 8, 9, 10 -> x -> x.write(a, b, c);
            default -> x -> x.spill(a);
        };
    }

    private static int anyNumber(Random random) {
        return random.nextInt(20) == 0 ? random.nextInt() : random.nextInt(18) - 1;
    }
}
