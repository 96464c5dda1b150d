import java.util.List;
import java.util.function.Consumer;
import java.util.function.Supplier;

/** Every refusal that hangs on the state: BROKEN, no change open, no sector FREE, not changed, spilled, 60. */
public final class RefusedStateTest {
    private static final Checks CHECKS = new Checks();

    private static final List<Stores.State> BROKEN = List.of(
            new Stores.State("broken", Stores::broken),
            new Stores.State("broken by its table", Stores::brokenTable));

    private static final List<Stores.State> NO_CHANGE_OPEN = List.of(
            new Stores.State("new", FlipPages::new),
            new Stores.State("committed and flushed", Stores::full),
            new Stores.State("committed", Stores::apart),
            new Stores.State("aborted", () -> then(Stores.spilled(), FlipPages::abort)),
            new Stores.State("formatted", () -> then(Stores.spilled(), FlipPages::format)),
            new Stores.State("failed", () -> then(Stores.spilled(), x -> x.fail(-1))),
            new Stores.State("refused its first write", () -> then(new FlipPages(), x -> x.write(0, 0, 256))));

    /** Which of them a state refuses is looked at elsewhere: here none that throws may leave a trace. */
    private static final List<Consumer<FlipPages>> REFUSED = List.of(
            x -> x.write(-1, 0, 9), x -> x.write(0, 16, 9), x -> x.write(0, 0, 256),
            x -> x.fill(16, 9, 9), x -> x.read(0, -1, false), x -> x.spill(16), x -> x.spill(15),
            x -> x.damage(48, 0, 9), x -> x.damage(3, 16, 9), x -> x.damage(3, 0, -1),
            x -> x.disk(-1, 0), x -> x.place(0, 3), x -> x.free(48), x -> x.held(60, 0), x -> x.held(0, 16),
            x -> x.total(8));

    public static void main(String[] args) {
        CHECKS.sentence("3 write, 'BROKEN'",
                () -> brokenThrows(x -> x.write(0, 0, 0), x -> x.write(15, 15, 255)));
        CHECKS.sentence("3 write, 'was not changed in it and no sector is FREE'",
                RefusedStateTest::writeWithoutASector);
        CHECKS.sentence("4 fill, 'as with write()': BROKEN",
                () -> brokenThrows(x -> x.fill(0, 0, 0), x -> x.fill(15, -1, -1)));
        CHECKS.sentence("4 fill, 'as with write()': no sector FREE", RefusedStateTest::fillWithoutASector);
        CHECKS.sentence("5 read, 'BROKEN'",
                () -> brokenThrows(x -> x.read(0, 0, true), x -> x.read(15, 15, false)));
        CHECKS.sentence("6 spill, 'it was not changed in an open change': none is open",
                RefusedStateTest::spillWithoutAChange);
        CHECKS.sentence("6 spill, 'it was not changed in an open change': others were",
                RefusedStateTest::spillOfAnotherPage);
        CHECKS.sentence("6 spill, 'or is spilled'", RefusedStateTest::spillOfASpilledPage);
        CHECKS.sentence("6 spill, 'there are 60'", RefusedStateTest::spillBehind60);
        CHECKS.sentence("7 commit, 'BROKEN'", () -> brokenThrows(x -> x.commit(false), x -> x.commit(true)));
        CHECKS.sentence("7 commit, 'no change is open'", RefusedStateTest::commitWithoutAChange);
        CHECKS.sentence("7 commit, 'or no sector is FREE'", RefusedStateTest::commitWithoutASector);
        CHECKS.sentence("8 abort, 'BROKEN'", () -> brokenThrows(FlipPages::abort));
        CHECKS.sentence("8 abort, 'or no change is open'", RefusedStateTest::abortWithoutAChange);
        CHECKS.sentence("9 flush, 'BROKEN'", () -> brokenThrows(FlipPages::flush));
        CHECKS.sentence("13 place, 'BROKEN'",
                () -> brokenThrows(x -> x.place(0, 0), x -> x.place(15, 1), x -> x.place(7, 2)));
        CHECKS.sentence("14 free, 'BROKEN'",
                () -> brokenThrows(x -> x.free(0), x -> x.free(5), x -> x.free(47)));
        CHECKS.sentence("'BROKEN (all calls that say so)', the others",
                RefusedStateTest::callsThatDoNotSaySo);
        CHECKS.sentence("'of several exceptions that fit the one named first is thrown', a wrong number and BROKEN",
                RefusedStateTest::wrongNumberAndBroken);
        CHECKS.sentence("'of several exceptions that fit the one named first is thrown', and no sector FREE",
                RefusedStateTest::wrongNumberAndNoSector);
        CHECKS.sentence("'of several exceptions that fit the one named first is thrown', and 60 held back",
                RefusedStateTest::spillWithTwoFaults);
        CHECKS.sentence("'A call that throws changes nothing'", RefusedStateTest::changesNothing);
        CHECKS.end();
    }

    private static FlipPages then(FlipPages x, Consumer<FlipPages> call) {
        Checks.thrown(() -> call.accept(x));
        return x;
    }

    @SafeVarargs
    private static void brokenThrows(Consumer<FlipPages>... calls) {
        for (Stores.State state : BROKEN) {
            for (Consumer<FlipPages> call : calls) {
                CHECKS.state(state.name(), state.made(), call);
            }
        }
    }

    private static void writeWithoutASector() {
        for (int page = 13; page < 16; page++) {
            int p = page;
            CHECKS.state("page " + p, Stores::crowded, x -> x.write(p, 0, 0));
        }
        FlipPages x = Stores.crowded();
        for (int page = 0; page < 13; page++) {
            CHECKS.equal("page " + page + ", changed before", x.write(page, 0, 9), page + 201);
        }
        CHECKS.equal("the last sector is given", Stores.oneFree().write(15, 0, 9), 116);
    }

    private static void fillWithoutASector() {
        for (int page = 13; page < 16; page++) {
            int p = page;
            CHECKS.state("page " + p, Stores::crowded, x -> x.fill(p, 1, 1));
        }
        FlipPages x = Stores.crowded();
        for (int page = 0; page < 13; page++) {
            CHECKS.equal("page " + page + ", changed before", x.fill(page, 1, 1), 13);
        }
        CHECKS.equal("the last sector is given", Stores.oneFree().fill(15, 1, 1), 13);
    }

    private static void spillWithoutAChange() {
        for (Stores.State state : NO_CHANGE_OPEN) {
            CHECKS.argument("page 0, " + state.name(), state.made(), x -> x.spill(0));
            CHECKS.argument("page 15, " + state.name(), state.made(), x -> x.spill(15));
        }
        for (Stores.State state : BROKEN) {
            CHECKS.argument(state.name(), state.made(), x -> x.spill(0));
        }
    }

    private static void spillOfAnotherPage() {
        CHECKS.argument("the next page", Stores::spilled, x -> x.spill(2));
        CHECKS.argument("the last page", Stores::spilled, x -> x.spill(15));
        CHECKS.argument("a page of the latest table", Stores::crowded, x -> x.spill(13));
    }

    private static void spillOfASpilledPage() {
        CHECKS.argument("at once", Stores::spilled, x -> x.spill(0));
        CHECKS.argument("behind a flush", () -> then(Stores.spilled(), FlipPages::flush), x -> x.spill(0));
        CHECKS.argument("behind another page's change", () -> then(Stores.spilled(), x -> x.write(1, 0, 9)),
                x -> x.spill(0));
        CHECKS.argument("behind a read", () -> then(Stores.spilled(), x -> x.read(0, 0, false)),
                x -> x.spill(0));
        CHECKS.argument("behind a refused write", () -> then(Stores.spilled(), x -> x.write(0, 16, 0)),
                x -> x.spill(0));
        CHECKS.equal("another page goes", Stores.spilled().spill(1), 2);
    }

    private static void spillBehind60() {
        CHECKS.state("60 pages' writes", Stores::rowOf60, x -> x.spill(1));
        CHECKS.state("with the master's", Stores::rowOf60WithMaster, x -> x.spill(0));
        FlipPages x = Stores.rowOf60();
        x.flush();
        CHECKS.equal("behind a flush it goes", x.spill(1), 1);
    }

    private static void wrongNumberAndBroken() {
        CHECKS.argument("write", Stores::broken, x -> x.write(0, 0, 256));
        CHECKS.argument("fill", Stores::broken, x -> x.fill(16, 0, 0));
        CHECKS.argument("read", Stores::broken, x -> x.read(0, 16, true));
        CHECKS.argument("spill", Stores::broken, x -> x.spill(16));
        CHECKS.argument("place", Stores::broken, x -> x.place(0, 3));
        CHECKS.argument("free", Stores::broken, x -> x.free(48));
    }

    private static void wrongNumberAndNoSector() {
        CHECKS.argument("write, b", Stores::crowded, x -> x.write(13, 0, 256));
        CHECKS.argument("write, i", Stores::crowded, x -> x.write(13, 16, 0));
        CHECKS.argument("write, page", Stores::crowded, x -> x.write(16, 0, 0));
        CHECKS.argument("fill", Stores::crowded, x -> x.fill(16, 0, 0));
    }

    private static void spillWithTwoFaults() {
        CHECKS.argument("no such page, 60", Stores::rowOf60, x -> x.spill(16));
        CHECKS.argument("not changed, 60", Stores::rowOf60, x -> x.spill(2));
        CHECKS.argument("spilled, 60", Stores::rowOf60, x -> x.spill(0));
        Supplier<FlipPages> aborted = () -> then(Stores.rowOf60(), FlipPages::abort);
        CHECKS.argument("no change open, 60", aborted, x -> x.spill(1));
    }

    private static void commitWithoutAChange() {
        for (Stores.State state : NO_CHANGE_OPEN) {
            CHECKS.state("commit(false), " + state.name(), state.made(), x -> x.commit(false));
            CHECKS.state("commit(true), " + state.name(), state.made(), x -> x.commit(true));
        }
    }

    private static void commitWithoutASector() {
        CHECKS.state("commit(false)", Stores::crowded, x -> x.commit(false));
        CHECKS.state("commit(true)", Stores::crowded, x -> x.commit(true));
        Supplier<FlipPages> spilled = () -> then(Stores.crowded(), RefusedStateTest::spill13);
        CHECKS.state("all pages spilled", spilled, x -> x.commit(false));
        FlipPages last = Stores.oneFree();
        CHECKS.equal("the last sector is given", last.commit(false), 3);
        CHECKS.equal("to the table", last.total(4), 47);
        FlipPages flushed = Stores.crowded();
        flushed.flush();
        CHECKS.equal("a flush gives the old table's sectors", flushed.commit(false), 3);
        CHECKS.equal("the least of them to the table", flushed.total(4), 2);
    }

    private static void spill13(FlipPages x) {
        for (int page = 0; page < 13; page++) {
            x.spill(page);
        }
    }

    private static void abortWithoutAChange() {
        for (Stores.State state : NO_CHANGE_OPEN) {
            CHECKS.state(state.name(), state.made(), FlipPages::abort);
        }
    }

    private static void callsThatDoNotSaySo() {
        for (Stores.State state : BROKEN) {
            Supplier<FlipPages> made = state.made();
            CHECKS.throwsNothing("disk", () -> made.get().disk(47, 15));
            CHECKS.throwsNothing("damage", () -> made.get().damage(47, 15, 255));
            CHECKS.no("fail", made.get().fail(0));
            CHECKS.no("fail with every write done", made.get().fail(-1));
            CHECKS.equal("total(0)", made.get().total(0), 0);
            for (int what = 1; what < 7; what++) {
                CHECKS.equal("total(" + what + ")", made.get().total(what), FlipPages.NONE);
            }
            CHECKS.equal("total(7)", made.get().total(7), 1);
            CHECKS.argument("held", made, x -> x.held(0, 0));
            CHECKS.same("format", Look.at(() -> then(made.get(), FlipPages::format)), Look.at(FlipPages::new));
        }
    }

    private static void changesNothing() {
        for (Stores.State state : Stores.ALL) {
            unchanged(state.name(), state.made(), REFUSED);
        }
        unchanged("no sector free", Stores::crowded, List.of(x -> x.write(13, 0, 9), x -> x.fill(15, 9, 9),
                x -> x.commit(false), x -> x.commit(true)));
        unchanged("60 held back", Stores::rowOf60, List.of(x -> x.spill(0), x -> x.spill(1), x -> x.spill(2)));
        for (Stores.State state : NO_CHANGE_OPEN) {
            unchanged(state.name(), state.made(), List.of(x -> x.spill(0), x -> x.commit(false),
                    x -> x.commit(true), FlipPages::abort));
        }
        for (Stores.State state : BROKEN) {
            unchanged(state.name(), state.made(), List.of(x -> x.write(0, 0, 9), x -> x.fill(0, 9, 9),
                    x -> x.read(0, 0, false), x -> x.spill(0), x -> x.commit(true), FlipPages::abort,
                    FlipPages::flush, x -> x.place(0, 0), x -> x.free(3)));
        }
    }

    private static void unchanged(String what, Supplier<FlipPages> made, List<Consumer<FlipPages>> calls) {
        CHECKS.same(what, Look.at(() -> all(made.get(), calls)), Look.at(made));
    }

    private static FlipPages all(FlipPages x, List<Consumer<FlipPages>> calls) {
        for (Consumer<FlipPages> call : calls) {
            Checks.thrown(() -> call.accept(x));
        }
        return x;
    }
}
