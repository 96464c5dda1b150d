import java.util.Random;
import java.util.function.IntSupplier;

/** Long runs of calls, always the same ones, on the class and on a model of it: every answer is compared. */
public final class ModelTest {
    private static final Checks CHECKS = new Checks();
    private static final int RUNS = 3000;
    /** An object is promised 512 calls: changes first, then looks, with room for the last change's calls. */
    private static final int CHANGES = 300;
    private static final int ALL = 490;

    private final Random random;
    private final FlipPages x = new FlipPages();
    private final Model model = new Model();
    private final String run;
    private final int pages;
    private final int ending;
    private final int spilling;
    private final int failing;
    private int calls;

    private ModelTest(int seed) {
        random = new Random(seed);
        run = "run " + seed;
        // Some runs fill the row, some crowd the disk, some fail all the time.
        pages = random.nextBoolean() ? 16 : 4;
        ending = random.nextInt(3) * 5;
        spilling = random.nextInt(3) * 20;
        failing = random.nextInt(3) * 2;
    }

    public static void main(String[] args) {
        for (int seed = 0; seed < RUNS; seed++) {
            new ModelTest(seed).compareAll();
        }
        CHECKS.end();
    }

    private void compareAll() {
        while (calls < CHANGES) {
            change();
        }
        while (calls < ALL) {
            look();
        }
    }

    private void compare(String call, IntSupplier got, IntSupplier due) {
        calls++;
        CHECKS.same(run + ": call " + calls + ", " + call, answer(got), answer(due));
    }

    private static String answer(IntSupplier call) {
        try {
            return Integer.toString(call.getAsInt());
        } catch (RuntimeException e) {
            return e.getClass().getName();
        }
    }

    /** Mostly below the bound, now and then one of the numbers beside it. */
    private int upTo(int bound) {
        return random.nextInt(40) == 0 ? (random.nextBoolean() ? -1 : bound) : random.nextInt(bound);
    }

    private void change() {
        int kind = random.nextInt(51 + ending + spilling + failing) - 51;
        if (kind < -20) {
            write();
        } else if (kind < -10) {
            fill();
        } else if (kind < -5) {
            look();
        } else if (kind < -1) {
            spill();
        } else if (kind < 0) {
            damage(random.nextInt(47) + 1, upTo(16), upTo(256));
        } else if (kind < ending) {
            end();
        } else if (kind < ending + spilling) {
            spill();
        } else {
            fail();
        }
    }

    private void end() {
        boolean sure = random.nextBoolean();
        switch (random.nextInt(6)) {
            case 0 -> compare("abort", x::abort, model::abort);
            case 1 -> compare("flush", x::flush, model::flush);
            default -> compare("commit", () -> x.commit(sure), () -> model.commit(sure));
        }
    }

    private void spill() {
        int page = upTo(pages);
        compare("spill", () -> x.spill(page), () -> model.spill(page));
    }

    private void write() {
        int page = upTo(pages);
        int i = upTo(16);
        int b = upTo(256);
        compare("write", () -> x.write(page, i, b), () -> model.write(page, i, b));
    }

    private void fill() {
        int page = upTo(pages);
        long w = random.nextLong();
        long v = random.nextLong();
        compare("fill", () -> x.fill(page, w, v), () -> model.fill(page, w, v));
    }

    private void fail() {
        switch (random.nextInt(5)) {
            case 0 -> damage(upTo(48), upTo(16), upTo(256));
            case 1 -> damageMaster();
            case 2 -> damage(model.total(4), random.nextInt(16), random.nextInt(50));
            default -> { }
        }
        long done = random.nextLong();
        compare("fail", () -> x.fail(done) ? 1 : 0, () -> model.fail(done));
        if (model.total(7) == 1 && random.nextBoolean()) {
            calls++;
            x.format();
            model.format();
        }
    }

    private void damage(int sector, int i, int b) {
        compare("damage", () -> x.damage(sector, i, b), () -> model.damage(sector, i, b));
    }

    /** A right check, a high generation, some sector as the table. */
    private void damageMaster() {
        int high = random.nextBoolean() ? 255 : 0;
        int[] head = {high, high, high, 255 - random.nextInt(3), random.nextInt(50), 0, 0, 0, 0, 0, 0, 0, 0, 0};
        if (random.nextBoolean()) {
            head[4] = model.total(4) & 255;
        }
        if (random.nextInt(4) == 0) {
            head[5 + random.nextInt(9)] = 1;
        }
        int[] master = Stores.master(head);
        for (int i = 0; i < 16; i++) {
            damage(0, i, master[i]);
        }
    }

    private void look() {
        int a = random.nextInt(7);
        int page = upTo(16);
        int sector = upTo(48);
        int i = upTo(16);
        boolean latest = random.nextBoolean();
        switch (a) {
            case 0 -> compare("read", () -> x.read(page, i, latest), () -> model.read(page, i, latest));
            case 1 -> compare("disk", () -> x.disk(sector, i), () -> model.disk(sector, i));
            case 2 -> place(page, upTo(3));
            case 3 -> compare("free", () -> x.free(sector) ? 1 : 0, () -> model.free(sector));
            case 4 -> held(upTo(Math.max(1, model.total(0))), random.nextInt(19) - 2);
            default -> total(upTo(8));
        }
    }

    private void place(int page, int which) {
        compare("place", () -> x.place(page, which), () -> model.place(page, which));
    }

    private void held(int k, int i) {
        compare("held", () -> x.held(k, i), () -> model.held(k, i));
    }

    private void total(int what) {
        compare("total", () -> x.total(what), () -> model.total(what));
    }
}
