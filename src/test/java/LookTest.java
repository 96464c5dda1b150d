/** Promises 12 to 15: disk, place, free, held. */
public final class LookTest {
    private static final Checks CHECKS = new Checks();

    public static void main(String[] args) {
        diskTellsTheDiskAlone();
        placeTellsThreeTables();
        freeTellsWhatNothingUses();
        heldTellsTheRow();
        CHECKS.end();
    }

    private static void diskTellsTheDiskAlone() {
        FlipPages x = new FlipPages();
        x.write(0, 0, 5);
        CHECKS.equal("what is changed is not there", x.disk(2, 0), 0);
        x.spill(0);
        CHECKS.equal("what is held back is not there", x.disk(2, 0), 0);
        x.flush();
        CHECKS.equal("what is flushed is there", x.disk(2, 0), 5);
        FlipPages broken = Stores.broken();
        CHECKS.equal("the disk of a broken store", broken.disk(2, 0), 1);
    }

    private static void placeTellsThreeTables() {
        FlipPages x = Stores.apart();
        CHECKS.equal("the open one without a change", x.place(0, 2), 1);
        x.write(0, 0, 1);
        int[] due = {1, 2, 35};
        for (int which = 0; which < 3; which++) {
            CHECKS.equal("place(0, " + which + ")", x.place(0, which), due[which]);
        }
        int[] unchanged = {33, 17, 33};
        for (int which = 0; which < 3; which++) {
            CHECKS.equal("place(15, " + which + ")", x.place(15, which), unchanged[which]);
        }
    }

    private static void freeTellsWhatNothingUses() {
        FlipPages x = Stores.apart();
        x.write(4, 0, 1);
        x.write(5, 0, 1);
        x.spill(5);
        for (int sector = 0; sector < 48; sector++) {
            CHECKS.equal("free(" + sector + ")", x.free(sector) ? 1 : 0, sector >= 37 ? 1 : 0);
        }
        x.abort();
        CHECKS.yes("a sector of an aborted change, its write held back", x.free(36));
        x.flush();
        for (int sector = 0; sector < 48; sector++) {
            boolean due = sector >= 2 && sector <= 18 || sector >= 35;
            CHECKS.equal("free(" + sector + ") behind a flush", x.free(sector) ? 1 : 0, due ? 1 : 0);
        }
    }

    private static void heldTellsTheRow() {
        FlipPages x = Stores.apart();
        x.fill(1, 0x0807060504030201L, 0x100F0E0D0C0B0A09L);
        x.spill(1);
        CHECKS.equal("write 0 is the master's", x.held(0, FlipPages.NONE), 0);
        CHECKS.equal("its table", x.held(0, 4), 34);
        CHECKS.equal("write 1 is the page's", x.held(1, FlipPages.NONE), 35);
        CHECKS.equal("its first byte", x.held(1, 0), 1);
        CHECKS.equal("its last byte", x.held(1, 15), 16);
        FlipPages long60 = Stores.rowOf60();
        CHECKS.equal("write 59", long60.held(59, 0), 60);
        CHECKS.equal("write 59's sector", long60.held(59, -1), 3);
    }
}
