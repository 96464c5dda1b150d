import java.util.Arrays;

/** 'MOUNTING', clause by clause, at the last number that is right and the first that is wrong. */
public final class MountEdgeTest {
    private static final Checks CHECKS = new Checks();

    public static void main(String[] args) {
        CHECKS.sentence("'at first'", MountEdgeTest::atFirst);
        CHECKS.sentence("'the master's CHECK must be right'", MountEdgeTest::check);
        CHECKS.sentence("'and bytes 5 .. 13 zeros'", MountEdgeTest::zeros);
        CHECKS.sentence("'its table's sector 1 .. 47'", MountEdgeTest::tableSector);
        CHECKS.sentence("'the sectors that the table tells 0 .. 47'", MountEdgeTest::toldSectors);
        CHECKS.sentence("'none of them but 0 twice'", MountEdgeTest::noneTwice);
        CHECKS.sentence("'none the table's own'", MountEdgeTest::noneItsOwn);
        CHECKS.sentence("'Then that is the latest and the sure table'", MountEdgeTest::latestAndSure);
        CHECKS.sentence("'otherwise the store is BROKEN'", MountEdgeTest::otherwiseBroken);
        CHECKS.sentence("'when the power was off', not before", MountEdgeTest::notBefore);
        CHECKS.end();
    }

    private static FlipPages put(int[] master, int... table) {
        FlipPages x = new FlipPages();
        Stores.putSector(x, 0, master);
        if (master[4] > 0 && master[4] < 48) {
            Stores.putSector(x, master[4], table);
        }
        return x;
    }

    private static void mounts(String what, int[] master, int... table) {
        FlipPages x = put(master, table);
        CHECKS.yes("fail, " + what, x.fail(0));
        CHECKS.equal("broken, " + what, x.total(7), 0);
        CHECKS.equal("the table's sector, " + what, x.total(4), master[4]);
        for (int p = 0; p < 16; p++) {
            CHECKS.equal("page " + p + ", " + what, x.place(p, 0), p < table.length ? table[p] : 0);
        }
    }

    private static void mountsNot(String what, int[] master, int... table) {
        FlipPages x = put(master, table);
        CHECKS.equal("broken too early, " + what, x.total(7), 0);
        CHECKS.no("fail, " + what, x.fail(0));
        CHECKS.equal("broken, " + what, x.total(7), 1);
    }

    private static int[] masterOf(int tableSector) {
        return Stores.master(0, 0, 0, 0, tableSector);
    }

    /** A table that tells this sector for this page, and 0 for all others. */
    private static int[] tableOf(int page, int sector) {
        int[] table = new int[16];
        table[page] = sector;
        return table;
    }

    private static void atFirst() {
        FlipPages x = new FlipPages();
        CHECKS.equal("broken", x.total(7), 0);
        CHECKS.equal("the latest sector", x.total(4), 1);
        CHECKS.equal("the sure sector", x.total(6), 1);
    }

    private static void check() {
        mounts("a right check", masterOf(1));
        for (int i = 0; i < 16; i++) {
            for (int bit = 1; bit < 256; bit <<= 1) {
                int[] master = masterOf(1);
                master[i] ^= bit;
                mountsNot("bit " + bit + " of byte " + i + " turned", master);
            }
        }
        int[] swapped = masterOf(1);
        swapped[14] = masterOf(1)[15];
        swapped[15] = masterOf(1)[14];
        mountsNot("the check's low byte first", swapped);
        mountsNot("a master of zeros", new int[16]);
    }

    private static void zeros() {
        for (int i = 5; i < 14; i++) {
            for (int b : new int[] {1, 128, 255}) {
                int[] head = Arrays.copyOf(masterOf(1), 14);
                head[i] = b;
                mountsNot("byte " + i + " is " + b + ", the check right", Stores.master(head));
            }
        }
    }

    private static void tableSector() {
        for (int sector = 0; sector < 256; sector++) {
            if (sector >= 1 && sector <= 47) {
                mounts("a table in " + sector, masterOf(sector));
            } else {
                mountsNot("a table in " + sector, masterOf(sector));
            }
        }
        mountsNot("a table in 0, which would do as one", Stores.master(0, 0, 0, 1, 0));
    }

    private static void toldSectors() {
        for (int page = 0; page < 16; page++) {
            mounts("page " + page + " in 0", masterOf(1), tableOf(page, 0));
            mounts("page " + page + " in 2", masterOf(1), tableOf(page, 2));
            mounts("page " + page + " in 47", masterOf(1), tableOf(page, 47));
            mountsNot("page " + page + " in 48", masterOf(1), tableOf(page, 48));
            mountsNot("page " + page + " in 255", masterOf(1), tableOf(page, 255));
        }
        for (int sector = 48; sector < 256; sector++) {
            mountsNot("page 9 in " + sector, masterOf(1), tableOf(9, sector));
        }
    }

    private static void noneTwice() {
        for (int page = 0; page < 16; page++) {
            for (int other = 0; other < page; other++) {
                int[] table = tableOf(page, 40);
                table[other] = 40;
                mountsNot("pages " + other + " and " + page + " in one", masterOf(1), table);
            }
        }
        mountsNot("two in 2", masterOf(1), 2, 2);
        mountsNot("two in 47", masterOf(1), 47, 3, 47);
        mounts("0 sixteen times", masterOf(1), new int[16]);
        mounts("0 twice between others", masterOf(1), 5, 0, 6, 0, 7);
        mounts("no zero", masterOf(1), 2, 3, 4, 5, 6, 7, 8, 9, 10, 11, 12, 13, 14, 15, 16, 47);
    }

    private static void noneItsOwn() {
        for (int page = 0; page < 16; page++) {
            mountsNot("page " + page + " in the table's sector 1", masterOf(1), tableOf(page, 1));
            mountsNot("page " + page + " in the table's sector 47", masterOf(47), tableOf(page, 47));
            mounts("page " + page + " in 1, the table in 47", masterOf(47), tableOf(page, 1));
            mounts("page " + page + " beside the table", masterOf(46), tableOf(page, 47));
        }
    }

    private static void latestAndSure() {
        FlipPages x = put(Stores.master(0x80, 1, 2, 0xFF, 47), 46, 0, 0, 2, 1);
        x.damage(46, 2, 7);
        x.write(9, 0, 1);
        CHECKS.yes("fail", x.fail(0));
        CHECKS.equal("no change is open", x.total(1), FlipPages.NONE);
        CHECKS.equal("the latest generation", x.total(3), 0x800102FF);
        CHECKS.equal("the latest sector", x.total(4), 47);
        CHECKS.equal("the sure generation", x.total(5), 0x800102FF);
        CHECKS.equal("the sure sector", x.total(6), 47);
        int[] places = {46, 0, 0, 2, 1, 0};
        for (int p = 0; p < places.length; p++) {
            CHECKS.equal("page " + p + "'s place", x.place(p, 0), places[p]);
            CHECKS.equal("page " + p + "'s sure place", x.place(p, 1), places[p]);
            CHECKS.equal("page " + p + "'s open place", x.place(p, 2), places[p]);
        }
        CHECKS.equal("page 0's byte 2", x.read(0, 2, false), 7);
        CHECKS.equal("free sectors", x.total(2), 43);
        x.write(0, 0, 1);
        CHECKS.equal("the next sector", x.place(0, 2), 3);
    }

    private static void otherwiseBroken() {
        FlipPages x = Stores.broken();
        CHECKS.no("fail again", x.fail(-1));
        x.damage(0, 15, x.disk(0, 15) ^ 1);
        CHECKS.equal("damage alone does not mend it", x.total(7), 1);
        CHECKS.yes("fail when it is right again", x.fail(0));
        CHECKS.equal("broken", x.total(7), 0);
        CHECKS.equal("page 0", x.read(0, 0, false), 1);
        CHECKS.equal("the generation", x.total(3), 1);
    }

    /** Wrong bytes on the disk are found when the power fails; till then a write may put them right. */
    private static void notBefore() {
        FlipPages x = Stores.full();
        x.damage(0, 14, x.disk(0, 14) ^ 255);
        x.damage(18, 3, 200);
        CHECKS.equal("broken at once", x.total(7), 0);
        CHECKS.equal("flush", x.flush(), 0);
        x.write(0, 0, 9);
        CHECKS.equal("commit", x.commit(true), 2);
        CHECKS.yes("fail behind a new master", x.fail(0));
        CHECKS.equal("page 3's place", x.place(3, 0), 5);
    }
}
