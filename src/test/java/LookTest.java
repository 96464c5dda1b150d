/** Promises 12 to 16: disk, place, free, held, total. */
public final class LookTest {
    private static final Checks CHECKS = new Checks();

    public static void main(String[] args) {
        diskTellsTheDiskAlone();
        diskRefuses();
        placeTellsThreeTables();
        placeRefuses();
        freeTellsWhatNothingUses();
        freeRefuses();
        heldTellsTheRow();
        heldRefuses();
        totalTellsAll();
        totalRefuses();
        CHECKS.end();
    }

    private static void diskTellsTheDiskAlone() {
        FlipPages x = new FlipPages();
        x.write(0, 0, 5);
        CHECKS.equal("what is changed is not there", x.disk(2, 0), 0);
        x.spill(0);
        CHECKS.equal("what is held back is not there", x.disk(2, 0), 0);
        x.flush();
        CHECKS.equal("what is flushed is there", x.disk(2, 0), 5);
        FlipPages broken = Stores.broken();
        CHECKS.equal("the disk of a broken store", broken.disk(2, 0), 1);
    }

    private static void diskRefuses() {
        CHECKS.argument("disk(-1, 0)", FlipPages::new, x -> x.disk(-1, 0));
        CHECKS.argument("disk(48, 0)", FlipPages::new, x -> x.disk(48, 0));
        CHECKS.argument("disk(0, -1)", FlipPages::new, x -> x.disk(0, -1));
        CHECKS.argument("disk(0, 16)", FlipPages::new, x -> x.disk(0, 16));
        CHECKS.argument("disk(48, 0), broken", Stores::broken, x -> x.disk(48, 0));
    }

    private static void placeTellsThreeTables() {
        FlipPages x = Stores.apart();
        CHECKS.equal("the open one without a change", x.place(0, 2), 1);
        x.write(0, 0, 1);
        int[] due = {1, 2, 35};
        for (int which = 0; which < 3; which++) {
            CHECKS.equal("place(0, " + which + ")", x.place(0, which), due[which]);
        }
        int[] unchanged = {33, 17, 33};
        for (int which = 0; which < 3; which++) {
            CHECKS.equal("place(15, " + which + ")", x.place(15, which), unchanged[which]);
        }
    }

    private static void placeRefuses() {
        CHECKS.argument("place(-1, 0)", FlipPages::new, x -> x.place(-1, 0));
        CHECKS.argument("place(16, 0)", FlipPages::new, x -> x.place(16, 0));
        CHECKS.argument("place(0, -1)", FlipPages::new, x -> x.place(0, -1));
        CHECKS.argument("place(0, 3)", FlipPages::new, x -> x.place(0, 3));
        CHECKS.argument("place(0, 3), broken", Stores::broken, x -> x.place(0, 3));
        CHECKS.argument("place(16, 0), broken", Stores::broken, x -> x.place(16, 0));
        for (int which = 0; which < 3; which++) {
            int table = which;
            CHECKS.state("place(0, " + which + "), broken", Stores::broken, x -> x.place(0, table));
        }
    }

    private static void freeTellsWhatNothingUses() {
        FlipPages x = Stores.apart();
        x.write(4, 0, 1);
        x.write(5, 0, 1);
        x.spill(5);
        for (int sector = 0; sector < 48; sector++) {
            CHECKS.equal("free(" + sector + ")", x.free(sector) ? 1 : 0, sector >= 37 ? 1 : 0);
        }
        x.abort();
        CHECKS.yes("a sector of an aborted change, its write held back", x.free(36));
        x.flush();
        for (int sector = 0; sector < 48; sector++) {
            boolean due = sector >= 2 && sector <= 18 || sector >= 35;
            CHECKS.equal("free(" + sector + ") behind a flush", x.free(sector) ? 1 : 0, due ? 1 : 0);
        }
    }

    private static void freeRefuses() {
        CHECKS.argument("free(-1)", FlipPages::new, x -> x.free(-1));
        CHECKS.argument("free(48)", FlipPages::new, x -> x.free(48));
        CHECKS.argument("free(66)", FlipPages::new, x -> x.free(66));
        CHECKS.argument("free(48), broken", Stores::broken, x -> x.free(48));
        CHECKS.state("free(5), broken", Stores::broken, x -> x.free(5));
        CHECKS.state("free(0), broken", Stores::broken, x -> x.free(0));
    }

    private static void heldTellsTheRow() {
        FlipPages x = Stores.apart();
        x.fill(1, 0x0807060504030201L, 0x100F0E0D0C0B0A09L);
        x.spill(1);
        CHECKS.equal("write 0 is the master's", x.held(0, FlipPages.NONE), 0);
        CHECKS.equal("its table", x.held(0, 4), 34);
        CHECKS.equal("write 1 is the page's", x.held(1, FlipPages.NONE), 35);
        CHECKS.equal("its first byte", x.held(1, 0), 1);
        CHECKS.equal("its last byte", x.held(1, 15), 16);
        FlipPages long60 = Stores.rowOf60();
        CHECKS.equal("write 59", long60.held(59, 0), 60);
        CHECKS.equal("write 59's sector", long60.held(59, -1), 3);
    }

    private static void heldRefuses() {
        CHECKS.argument("held(0, -1), nothing held back", FlipPages::new, x -> x.held(0, -1));
        CHECKS.argument("held(-1, 0)", Stores::apart, x -> x.held(-1, 0));
        CHECKS.argument("held(1, 0)", Stores::apart, x -> x.held(1, 0));
        CHECKS.argument("held(0, -2)", Stores::apart, x -> x.held(0, -2));
        CHECKS.argument("held(0, 16)", Stores::apart, x -> x.held(0, 16));
        CHECKS.argument("held(60, 0)", Stores::rowOf60, x -> x.held(60, 0));
        CHECKS.argument("held(77, 0)", Stores::rowOf60, x -> x.held(77, 0));
        CHECKS.argument("held(0, 0), flushed", Stores::full, x -> x.held(0, 0));
        CHECKS.argument("held(0, 0), broken", Stores::broken, x -> x.held(0, 0));
    }

    private static void totals(String what, FlipPages x, int... due) {
        for (int n = 0; n < 8; n++) {
            CHECKS.equal(what + ", total(" + n + ")", x.total(n), due[n]);
        }
    }

    private static void totalTellsAll() {
        totals("new", new FlipPages(), 0, -1, 46, 0, 1, 0, 1, 0);
        totals("full", Stores.full(), 0, -1, 30, 1, 18, 1, 18, 0);
        totals("apart", Stores.apart(), 1, -1, 13, 2, 34, 1, 18, 0);
        totals("crowded", Stores.crowded(), 1, 13, 0, 2, 34, 1, 18, 0);
        totals("row of 60", Stores.rowOf60(), 60, 2, 44, 0, 1, 0, 1, 0);
        totals("broken", Stores.broken(), 0, -1, -1, -1, -1, -1, -1, 1);
    }

    private static void totalRefuses() {
        CHECKS.argument("total(-1)", FlipPages::new, x -> x.total(-1));
        CHECKS.argument("total(8)", FlipPages::new, x -> x.total(8));
        CHECKS.argument("total(8), broken", Stores::broken, x -> x.total(8));
        CHECKS.argument("total(-1), broken", Stores::broken, x -> x.total(-1));
    }
}
