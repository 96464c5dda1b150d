import java.util.function.ObjIntConsumer;

/**
 * 'IllegalArgumentException: there is no such page, sector or byte, or a number is not as it may be', for each
 * number of each call, in each state: so it comes before every IllegalStateException, and changes nothing.
 */
public final class WrongNumberTest {
    private static final Checks CHECKS = new Checks();

    /** The numbers beside the ranges, the ends of int, and some that would do if bits of them were dropped. */
    private static final int[] NUMBERS = {
        Integer.MIN_VALUE, Integer.MIN_VALUE + 5, -65536, -256, -255, -64, -16, -15, -3, -2, -1,
        3, 8, 16, 17, 48, 49, 64, 66, 255, 256, 261, 65536, 1 << 24, Integer.MAX_VALUE - 1, Integer.MAX_VALUE,
    };

    public static void main(String[] args) {
        CHECKS.sentence("3 write, no such page", () -> wrong(0, 15, (x, n) -> x.write(n, 0, 1)));
        CHECKS.sentence("3 write, no such byte", () -> wrong(0, 15, (x, n) -> x.write(15, n, 1)));
        CHECKS.sentence("3 write, 'also if b is not 0 .. 255'", () -> wrong(0, 255, (x, n) -> x.write(0, 15, n)));
        CHECKS.sentence("3 write, all of them wrong", () -> wrong(0, 255, (x, n) -> x.write(n, n, n)));
        CHECKS.sentence("4 fill, no such page", () -> wrong(0, 15, (x, n) -> x.fill(n, 1, 2)));
        CHECKS.sentence("5 read, no such page", () -> wrong(0, 15, (x, n) -> x.read(n, 0, n % 2 == 0)));
        CHECKS.sentence("5 read, no such byte", () -> wrong(0, 15, (x, n) -> x.read(15, n, n % 2 == 0)));
        CHECKS.sentence("6 spill, no such page", () -> wrong(0, 15, FlipPages::spill));
        CHECKS.sentence("11 damage, no such sector", () -> wrong(0, 47, (x, n) -> x.damage(n, 0, 1)));
        CHECKS.sentence("11 damage, no such byte", () -> wrong(0, 15, (x, n) -> x.damage(47, n, 1)));
        CHECKS.sentence("11 damage, b not as it may be", () -> wrong(0, 255, (x, n) -> x.damage(0, 15, n)));
        CHECKS.sentence("12 disk, no such sector", () -> wrong(0, 47, (x, n) -> x.disk(n, 0)));
        CHECKS.sentence("12 disk, no such byte", () -> wrong(0, 15, (x, n) -> x.disk(47, n)));
        CHECKS.sentence("13 place, no such page", () -> wrong(0, 15, (x, n) -> x.place(n, 0)));
        CHECKS.sentence("13 place, which not 0, 1, 2", () -> wrong(0, 2, (x, n) -> x.place(15, n)));
        CHECKS.sentence("14 free, no such sector", () -> wrong(0, 47, FlipPages::free));
        CHECKS.sentence("15 held, 'there is no such write'", WrongNumberTest::noSuchWrite);
        CHECKS.sentence("15 held, 'i is not -1 .. 15'", () -> wrong(-1, 15, (x, n) -> x.held(0, n)));
        CHECKS.sentence("16 total, what not 0 .. 7", () -> wrong(0, 7, FlipPages::total));
        CHECKS.end();
    }

    private static void wrong(int least, int most, ObjIntConsumer<FlipPages> call) {
        for (Stores.State state : Stores.ALL) {
            wrongIn(state, least, most, call);
        }
    }

    private static void wrongIn(Stores.State state, int least, int most, ObjIntConsumer<FlipPages> call) {
        for (int n : NUMBERS) {
            if (n < least || n > most) {
                CHECKS.argument(n + ", " + state.name(), state.made(), x -> call.accept(x, n));
            }
        }
    }

    /** As many as are held back is the first number that is too large: 0 when nothing is. */
    private static void noSuchWrite() {
        for (Stores.State state : Stores.ALL) {
            int held = state.made().get().total(0);
            for (int i = FlipPages.NONE; i < 16; i += 8) {
                int part = i;
                wrongIn(state, 0, held - 1, (x, k) -> x.held(k, part));
                CHECKS.argument(held + ", " + state.name(), state.made(), x -> x.held(held, part));
            }
        }
    }
}
