import java.util.function.IntSupplier;
import java.util.function.Supplier;

/**
 * All that can be seen of a store, and what it does next. It is told in parts, each of an object made anew,
 * so that none is used for more than its 512 calls; a part takes at most 280 of them.
 */
final class Look {
    private static final int SECTORS_A_PART = 16;
    private static final int WRITES_A_PART = 15;

    private final StringBuilder seen = new StringBuilder();
    private FlipPages x;

    private Look() {
    }

    static String at(Supplier<FlipPages> made) {
        Look look = new Look();
        look.x = made.get();
        look.totalsAndPlaces();
        for (int first = 0; first < 48; first += SECTORS_A_PART) {
            look.x = made.get();
            look.disk(first);
        }
        int held = made.get().total(0);
        for (int first = 0; first < held; first += WRITES_A_PART) {
            look.x = made.get();
            look.held(first, Math.min(held, first + WRITES_A_PART));
        }
        look.x = made.get();
        look.pages(false);
        look.x = made.get();
        look.pages(true);
        look.x = made.get();
        look.goOn();
        return look.seen.toString();
    }

    private static boolean isBroken(FlipPages x) {
        return x.total(7) == 1;
    }

    private void totalsAndPlaces() {
        seen.append("totals");
        for (int what = 0; what < 8; what++) {
            seen.append(' ').append(x.total(what));
        }
        if (isBroken(x)) {
            return;
        }
        seen.append("\nplaces");
        for (int page = 0; page < 16; page++) {
            seen.append(' ').append(x.place(page, 0)).append('/').append(x.place(page, 1));
            seen.append('/').append(x.place(page, 2));
        }
        seen.append("\nfree");
        for (int sector = 0; sector < 48; sector++) {
            seen.append(x.free(sector) ? " y" : " n");
        }
    }

    private void disk(int first) {
        for (int sector = first; sector < first + SECTORS_A_PART; sector++) {
            seen.append("\nsector ").append(sector).append(':');
            for (int i = 0; i < 16; i++) {
                seen.append(' ').append(x.disk(sector, i));
            }
        }
    }

    private void held(int first, int end) {
        for (int k = first; k < end; k++) {
            seen.append("\nheld ").append(k).append(':');
            for (int i = FlipPages.NONE; i < 16; i++) {
                seen.append(' ').append(x.held(k, i));
            }
        }
    }

    private void pages(boolean latest) {
        if (isBroken(x)) {
            return;
        }
        for (int page = 0; page < 16; page++) {
            seen.append("\npage ").append(page).append(latest ? " (latest):" : ":");
            for (int i = 0; i < 16; i++) {
                seen.append(' ').append(x.read(page, i, latest));
            }
        }
    }

    /** What no look tells, which pages are spilled among it, is told by what the next calls do. */
    private void goOn() {
        for (int page = 0; page < 16; page++) {
            int p = page;
            next("spill", () -> x.spill(p));
        }
        next("commit", () -> x.commit(true));
        next("abort", x::abort);
        next("flush", x::flush);
        next("fail", () -> x.fail(0) ? 1 : 0);
        for (int what = 0; what < 8; what++) {
            int w = what;
            next("total", () -> x.total(w));
        }
    }

    private void next(String call, IntSupplier answer) {
        seen.append('\n').append(call).append(": ");
        String thrown = Checks.thrown(() -> seen.append(answer.getAsInt()));
        seen.append(thrown.equals("nothing") ? "" : thrown);
    }
}
