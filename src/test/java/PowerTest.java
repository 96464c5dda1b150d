/** Promises 1, 2, 10 and 11: a new object, format, fail, damage. */
public final class PowerTest {
    private static final Checks CHECKS = new Checks();

    public static void main(String[] args) {
        aNewObjectIsFormatted();
        formatMakesItNew();
        failDoesTheWritesOfItsBits();
        failKeepsTheirOrder();
        failReachesWrite59();
        failOnTheMaster();
        failDropsTheOpenChange();
        mountingLooksAtTheMaster();
        mountingLooksAtTheTable();
        mountingTakesWhatIsRight();
        aBrokenStoreCanBeMended();
        damageChangesTheDiskAlone();
        damageWhileBroken();
        damageRefuses();
        CHECKS.end();
    }

    private static void aNewObjectIsFormatted() {
        FlipPages x = new FlipPages();
        for (int i = 0; i < 16; i++) {
            CHECKS.equal("the master's byte " + i, x.disk(0, i), i == 4 ? 1 : i == 14 ? 219 : i == 15 ? 96 : 0);
        }
        for (int sector = 1; sector < 48; sector++) {
            CHECKS.equal("byte 0 of sector " + sector, x.disk(sector, 0), 0);
            CHECKS.equal("byte 15 of sector " + sector, x.disk(sector, 15), 0);
            CHECKS.equal("free sector " + sector, x.free(sector) ? 1 : 0, sector == 1 ? 0 : 1);
        }
        int[] due = {0, -1, 46, 0, 1, 0, 1, 0};
        for (int what = 0; what < 8; what++) {
            CHECKS.equal("total(" + what + ")", x.total(what), due[what]);
        }
    }

    private static void formatMakesItNew() {
        FlipPages[] all = {new FlipPages(), Stores.full(), Stores.crowded(), Stores.broken(), Stores.rowOf60()};
        for (FlipPages x : all) {
            x.damage(47, 0, 5);
            x.damage(1, 0, 6);
            x.format();
            CHECKS.same("a formatted store", Stores.look(x), Stores.look(new FlipPages()));
        }
        FlipPages x = Stores.crowded();
        x.format();
        for (int sector = 1; sector < 48; sector++) {
            for (int i = 0; i < 8; i++) {
                CHECKS.equal("byte of sector " + sector, x.disk(sector, i), 0);
            }
        }
        CHECKS.yes("and it can be mounted", x.fail(-1));
    }

    private static FlipPages threeHeldBack() {
        FlipPages x = new FlipPages();
        for (int p = 0; p < 3; p++) {
            x.write(p, 0, p + 11);
            x.write(p, 15, p + 21);
            x.spill(p);
        }
        return x;
    }

    private static void failDoesTheWritesOfItsBits() {
        for (int done = 0; done < 8; done++) {
            FlipPages x = threeHeldBack();
            CHECKS.yes("fail(" + done + ")", x.fail(done));
            for (int k = 0; k < 3; k++) {
                boolean bit = (done >> k & 1) == 1;
                CHECKS.equal("sector " + (k + 2) + " by " + done, x.disk(k + 2, 0), bit ? k + 11 : 0);
                CHECKS.equal("its last byte", x.disk(k + 2, 15), bit ? k + 21 : 0);
            }
            CHECKS.equal("nothing is held back", x.total(0), 0);
        }
        FlipPages x = threeHeldBack();
        CHECKS.yes("fail with bits of no write", x.fail(-8L));
        CHECKS.equal("none is done", x.disk(2, 0) + x.disk(3, 0) + x.disk(4, 0), 0);
    }

    private static void failKeepsTheirOrder() {
        long[] done = {0, 1, 2, 3, 4, 5, 6, 7};
        int[] due = {0, 1, 2, 2, 3, 3, 3, 3};
        for (int n = 0; n < done.length; n++) {
            FlipPages x = new FlipPages();
            for (int b = 1; b <= 3; b++) {
                x.write(0, 0, b);
                x.spill(0);
            }
            x.fail(done[n]);
            CHECKS.equal("the sector by " + done[n], x.disk(2, 0), due[n]);
        }
    }

    private static void failReachesWrite59() {
        int[] bits = {0, 30, 31, 32, 33, 58, 59};
        for (int k : bits) {
            FlipPages x = Stores.rowOf60();
            x.fail(1L << k);
            CHECKS.equal("write " + k + " alone", x.disk(3, 0), k + 1);
        }
        FlipPages x = Stores.rowOf60();
        x.fail(-1L ^ 1L << 59);
        CHECKS.equal("all but the last", x.disk(3, 0), 59);
    }

    private static void failOnTheMaster() {
        FlipPages lost = Stores.apart();
        CHECKS.yes("fail(0)", lost.fail(0));
        CHECKS.equal("the old generation", lost.total(3), 1);
        CHECKS.equal("the old table", lost.total(4), 18);
        CHECKS.equal("the old page", lost.read(0, 0, false), 1);
        CHECKS.equal("the others' sectors are free", lost.total(2), 30);
        FlipPages done = Stores.apart();
        CHECKS.yes("fail(1)", done.fail(1));
        CHECKS.equal("the new generation", done.total(3), 2);
        CHECKS.equal("it is sure", done.total(5), 2);
        CHECKS.equal("the new table", done.total(4), 34);
        CHECKS.equal("it is sure", done.total(6), 34);
        CHECKS.equal("the new place", done.place(0, 1), 1);
        CHECKS.equal("the new page", done.read(0, 0, false), 101);
    }

    private static void failDropsTheOpenChange() {
        FlipPages x = Stores.full();
        x.write(0, 0, 99);
        x.spill(0);
        x.fail(-1);
        CHECKS.equal("no change is open", x.total(1), -1);
        CHECKS.equal("the page", x.read(0, 0, false), 1);
        CHECKS.equal("its place", x.place(0, 2), 2);
        CHECKS.yes("the change's sector", x.free(1));
        CHECKS.equal("its write was done", x.disk(1, 0), 99);
    }

    private static void mountsNot(String what, int[] master, int... table) {
        FlipPages x = new FlipPages();
        Stores.putSector(x, 0, master);
        Stores.putSector(x, 1, table);
        CHECKS.equal("not broken before, " + what, x.total(7), 0);
        CHECKS.no("fail, " + what, x.fail(0));
        CHECKS.equal("broken, " + what, x.total(7), 1);
    }

    private static void mountingLooksAtTheMaster() {
        for (int i = 5; i < 14; i++) {
            int[] head = {0, 0, 0, 0, 1, 0, 0, 0, 0, 0, 0, 0, 0, 0};
            head[i] = 1;
            mountsNot("byte " + i + " not zero, its check right", Stores.master(head));
        }
        for (int i = 0; i < 16; i++) {
            int[] master = Stores.master(0, 0, 0, 0, 1);
            master[i] ^= 128;
            mountsNot("byte " + i + " wrong", master);
        }
        mountsNot("a table in sector 0", Stores.master(0, 0, 0, 0, 0));
        mountsNot("a table in sector 0, which would do as one", Stores.master(0, 0, 0, 1, 0));
        mountsNot("a table in sector 48", Stores.master(0, 0, 0, 0, 48));
        mountsNot("a table in sector 255", Stores.master(0, 0, 0, 0, 255));
    }

    private static void mountingLooksAtTheTable() {
        int[] master = Stores.master(0, 0, 0, 0, 1);
        mountsNot("a page in sector 48", master, 48);
        mountsNot("a page in sector 66, the bit of 2", master, 2, 66);
        mountsNot("a page in sector 64", master, 64);
        mountsNot("the last page in sector 255", master, 0, 0, 0, 0, 0, 0, 0, 0, 0, 0, 0, 0, 0, 0, 0, 255);
        mountsNot("two pages in one sector", master, 0, 9, 8, 9);
        mountsNot("the first and the last in one", master, 47, 0, 0, 0, 0, 0, 0, 0, 0, 0, 0, 0, 0, 0, 0, 47);
        mountsNot("a page in the table's own sector", master, 0, 0, 1);
    }

    private static void mountingTakesWhatIsRight() {
        FlipPages x = new FlipPages();
        Stores.putSector(x, 0, Stores.master(0x80, 1, 2, 0xFF, 47));
        Stores.putSector(x, 47, 46, 0, 0, 2, 1);
        Stores.putSector(x, 46, 5, 6, 7);
        x.write(9, 0, 1);
        CHECKS.yes("fail", x.fail(0));
        CHECKS.equal("the generation", x.total(3), 0x800102FF);
        CHECKS.equal("the sure generation", x.total(5), 0x800102FF);
        CHECKS.equal("the sector", x.total(4), 47);
        CHECKS.equal("the sure sector", x.total(6), 47);
        CHECKS.equal("page 0's byte 2", x.read(0, 2, false), 7);
        CHECKS.equal("page 4's place", x.place(4, 0), 1);
        CHECKS.equal("page 4's sure place", x.place(4, 1), 1);
        CHECKS.equal("page 1's place", x.place(1, 0), 0);
        CHECKS.equal("free sectors", x.total(2), 43);
        x.write(0, 0, 1);
        CHECKS.equal("the next sector", x.place(0, 2), 3);
    }

    private static void aBrokenStoreCanBeMended() {
        FlipPages x = Stores.broken();
        int[] due = {0, -1, -1, -1, -1, -1, -1, 1};
        for (int what = 0; what < 8; what++) {
            CHECKS.equal("total(" + what + "), broken", x.total(what), due[what]);
        }
        CHECKS.no("fail again", x.fail(-1));
        x.damage(0, 15, x.disk(0, 15) ^ 1);
        CHECKS.equal("damage alone does not mount it", x.total(7), 1);
        CHECKS.yes("fail when it is right again", x.fail(0));
        CHECKS.equal("not broken", x.total(7), 0);
        CHECKS.equal("page 0", x.read(0, 0, false), 1);
        CHECKS.equal("the generation", x.total(3), 1);
    }

    private static FlipPages brokenWithARow() {
        FlipPages x = Stores.apart();
        x.write(0, 0, 1);
        x.spill(0);
        x.damage(0, 0, 1);
        x.fail(2);
        return x;
    }

    private static void damageChangesTheDiskAlone() {
        FlipPages x = Stores.full();
        CHECKS.equal("damage of the table", x.damage(18, 0, 48), 2);
        CHECKS.equal("damage of it again", x.damage(18, 0, 255), 48);
        CHECKS.equal("damage to what it was", x.damage(18, 0, 255), 255);
        CHECKS.equal("damage of the master", x.damage(0, 4, 200), 18);
        CHECKS.equal("the disk", x.disk(18, 0), 255);
        CHECKS.equal("page 0's place", x.place(0, 0), 2);
        CHECKS.equal("page 0's sure place", x.place(0, 1), 2);
        CHECKS.equal("the table's sector", x.total(4), 18);
        CHECKS.equal("free sectors", x.total(2), 30);
        CHECKS.equal("not broken", x.total(7), 0);
        x.write(1, 0, 9);
        x.commit(true);
        CHECKS.equal("the next table tells what the store knows", x.disk(x.total(4), 0), 2);
        CHECKS.yes("and it can be mounted", x.fail(0));
        x.write(2, 0, 8);
        x.spill(2);
        x.damage(x.held(0, -1), 1, 7);
        CHECKS.equal("what is held back stays", x.held(0, 1), 0);
        CHECKS.equal("damage of the last byte of all", x.damage(47, 15, 255), 0);
        CHECKS.equal("the last byte of all", x.disk(47, 15), 255);
    }

    private static void damageWhileBroken() {
        FlipPages x = brokenWithARow();
        CHECKS.equal("broken", x.total(7), 1);
        CHECKS.equal("nothing is held back", x.total(0), 0);
        CHECKS.equal("damage", x.damage(0, 0, 0), 1);
        CHECKS.yes("fail", x.fail(0));
        CHECKS.equal("the old generation", x.total(3), 1);
        CHECKS.equal("the spilled write was done", x.disk(35, 0), 1);
    }

    private static void damageRefuses() {
        CHECKS.argument("damage(-1, ..)", FlipPages::new, x -> x.damage(-1, 0, 1));
        CHECKS.argument("damage(48, ..)", FlipPages::new, x -> x.damage(48, 0, 1));
        CHECKS.argument("damage(0, -1, ..)", FlipPages::new, x -> x.damage(0, -1, 1));
        CHECKS.argument("damage(0, 16, ..)", FlipPages::new, x -> x.damage(0, 16, 1));
        CHECKS.argument("damage(2, 0, -1)", FlipPages::new, x -> x.damage(2, 0, -1));
        CHECKS.argument("damage(2, 0, 256)", FlipPages::new, x -> x.damage(2, 0, 256));
        CHECKS.argument("damage(48, ..), broken", Stores::broken, x -> x.damage(48, 0, 1));
    }
}
