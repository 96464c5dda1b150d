/** What is answered at the ends of each range: pages, sectors, bytes, numbers, counts. */
public final class RangeEndTest {
    private static final Checks CHECKS = new Checks();
    private static final int[] PAGE_ENDS = {0, 15};
    private static final int[] SECTOR_ENDS = {0, 47};
    private static final int[] BYTE_ENDS = {0, 15};

    public static void main(String[] args) {
        CHECKS.sentence("1 a new object, every byte of it", RangeEndTest::newObject);
        CHECKS.sentence("2 format, from every state", RangeEndTest::format);
        CHECKS.sentence("3 write, page 0 and 15, byte 0 and 15, b 0 and 255", RangeEndTest::write);
        CHECKS.sentence("4 fill, page 0 and 15", RangeEndTest::fill);
        CHECKS.sentence("4 fill, the least and the greatest w and v", RangeEndTest::fillWithEnds);
        CHECKS.sentence("4 fill, 1 and 16 pages changed", RangeEndTest::fillCounts);
        CHECKS.sentence("5 read, page 0 and 15, byte 0 and 15", RangeEndTest::read);
        CHECKS.sentence("6 spill, page 0 and 15, 1 and 60 held back", RangeEndTest::spill);
        CHECKS.sentence("7 commit, 1 and 16 pages changed", RangeEndTest::commit);
        CHECKS.sentence("8 abort, 1 and 16 pages changed", RangeEndTest::abort);
        CHECKS.sentence("9 flush, 0, 1 and 60 held back", RangeEndTest::flush);
        CHECKS.sentence("10 fail, nothing held back", RangeEndTest::failOfNothing);
        CHECKS.sentence("10 fail, write number 0 and the last", RangeEndTest::failOfTheEnds);
        CHECKS.sentence("11 damage, sector 0 and 47, byte 0 and 15, b 0 and 255", RangeEndTest::damage);
        CHECKS.sentence("12 disk, sector 0 and 47, byte 0 and 15", RangeEndTest::disk);
        CHECKS.sentence("13 place, page 0 and 15, which 0, 1, 2", RangeEndTest::place);
        CHECKS.sentence("13 place, '2; as the latest without one'", RangeEndTest::placeWithoutAChange);
        CHECKS.sentence("14 free, sector 0 and 47", RangeEndTest::free);
        CHECKS.sentence("15 held, number 0 and the last, i = NONE, 0 and 15", RangeEndTest::held);
        CHECKS.sentence("16 total, what 0 to 7", RangeEndTest::total);
        CHECKS.sentence("16 total, the least and the greatest of each", RangeEndTest::totalEnds);
        CHECKS.end();
    }

    private static void newObject() {
        int[] master = {0, 0, 0, 0, 1, 0, 0, 0, 0, 0, 0, 0, 0, 0, 219, 96};
        for (int sector = 0; sector < 48; sector++) {
            FlipPages x = new FlipPages();
            for (int i = 0; i < 16; i++) {
                CHECKS.equal("disk(" + sector + ", " + i + ")", x.disk(sector, i), sector == 0 ? master[i] : 0);
            }
            CHECKS.equal("free(" + sector + ")", x.free(sector) ? 1 : 0, sector > 1 ? 1 : 0);
        }
        for (int page = 0; page < 16; page++) {
            FlipPages x = new FlipPages();
            for (int i = 0; i < 16; i++) {
                CHECKS.equal("read(" + page + ", " + i + ")", x.read(page, i, i % 2 == 0), 0);
            }
            for (int which = 0; which < 3; which++) {
                CHECKS.equal("place(" + page + ", " + which + ")", x.place(page, which), 0);
            }
        }
        totals("new", new FlipPages(), 0, -1, 46, 0, 1, 0, 1, 0);
    }

    private static void format() {
        String due = Look.at(FlipPages::new);
        for (Stores.State state : Stores.ALL) {
            CHECKS.same(state.name(), Look.at(() -> formatted(state.made().get())), due);
        }
    }

    private static FlipPages formatted(FlipPages x) {
        x.damage(47, 15, 5);
        x.damage(1, 0, 6);
        x.damage(0, 0, 7);
        x.format();
        return x;
    }

    private static void write() {
        for (int page : PAGE_ENDS) {
            for (int i : BYTE_ENDS) {
                FlipPages x = new FlipPages();
                CHECKS.equal("255 over 0", x.write(page, i, 255), 0);
                CHECKS.equal("it is read", x.read(page, i, false), 255);
                CHECKS.equal("0 over 255", x.write(page, i, 0), 255);
                CHECKS.equal("it is read", x.read(page, i, false), 0);
                CHECKS.equal("0 over 0", x.write(page, i, 0), 0);
                CHECKS.equal("255 again", x.write(page, i, 255), 0);
                CHECKS.equal("255 over 255", x.write(page, i, 255), 255);
                othersAreZeros(x, page, i);
                x.commit(true);
                CHECKS.equal("on the disk", x.disk(2, i), 255);
                othersAreZeros(x, page, i);
            }
        }
    }

    private static void othersAreZeros(FlipPages x, int page, int i) {
        for (int n = 0; n < 16; n++) {
            CHECKS.equal("byte " + n + " of the page", x.read(page, n, false), n == i ? 255 : 0);
            CHECKS.equal("byte " + i + " of page " + n, x.read(n, i, false), n == page ? 255 : 0);
        }
    }

    private static void fill() {
        for (int page : PAGE_ENDS) {
            FlipPages x = new FlipPages();
            CHECKS.equal("fill", x.fill(page, 0x0807060504030201L, 0x100F0E0D0C0B0A09L), 1);
            for (int i = 0; i < 16; i++) {
                CHECKS.equal("byte " + i, x.read(page, i, false), i + 1);
                CHECKS.equal("byte " + i + " of the other end", x.read(15 - page, i, false), 0);
            }
        }
    }

    private static void fillWithEnds() {
        long[] longs = {0, -1, 1, 255, 256, 1L << 31, 1L << 32, 1L << 55, 1L << 56, Long.MAX_VALUE, Long.MIN_VALUE};
        for (long w : longs) {
            for (long v : longs) {
                FlipPages x = new FlipPages();
                x.fill(3, w, v);
                for (int i = 0; i < 16; i++) {
                    long due = Math.floorMod((i < 8 ? w : v) >> 8 * (i % 8), 256L);
                    CHECKS.equal("byte " + i + " of " + w + ", " + v, x.read(3, i, false), due);
                }
            }
        }
    }

    private static void fillCounts() {
        FlipPages x = new FlipPages();
        for (int page = 15; page >= 0; page--) {
            CHECKS.equal("fill of page " + page, x.fill(page, 1, 1), 16 - page);
        }
        CHECKS.equal("fill of a page again", x.fill(0, 2, 2), 16);
    }

    private static void read() {
        for (int page : PAGE_ENDS) {
            for (int i : BYTE_ENDS) {
                FlipPages x = new FlipPages();
                x.write(page, i, 255);
                CHECKS.equal("in the open change", x.read(page, i, false), 255);
                CHECKS.equal("by latest", x.read(page, i, true), 0);
                x.commit(false);
                CHECKS.equal("without a change", x.read(page, i, false), 255);
                CHECKS.equal("without a change, by latest", x.read(page, i, true), 255);
            }
        }
    }

    private static void spill() {
        for (int page : PAGE_ENDS) {
            FlipPages x = new FlipPages();
            for (int n = 1; n <= 60; n++) {
                x.write(page, 0, n);
                CHECKS.equal("spill of page " + page, x.spill(page), n);
            }
        }
    }

    private static FlipPages changed(int pages) {
        FlipPages x = new FlipPages();
        for (int p = 0; p < pages; p++) {
            x.write(p, 15, p + 1);
        }
        return x;
    }

    private static void commit() {
        for (int pages = 1; pages <= 16; pages++) {
            FlipPages x = changed(pages);
            CHECKS.equal("commit", x.commit(false), 1);
            CHECKS.equal("the table's sector", x.total(4), pages + 2);
            for (int p = 0; p < 16; p++) {
                CHECKS.equal("the table's byte " + p, x.disk(pages + 2, p), p < pages ? p + 2 : 0);
                CHECKS.equal("page " + p, x.read(p, 15, true), p < pages ? p + 1 : 0);
            }
        }
    }

    private static void abort() {
        for (int pages = 1; pages <= 16; pages++) {
            FlipPages x = changed(pages);
            CHECKS.equal("abort", x.abort(), pages);
            CHECKS.equal("all sectors are free again", x.total(2), 46);
        }
    }

    private static void flush() {
        CHECKS.equal("nothing held back", new FlipPages().flush(), 0);
        CHECKS.equal("the master's write", Stores.apart().flush(), 1);
        FlipPages x = Stores.rowOf60();
        CHECKS.equal("a full row", x.flush(), 60);
        CHECKS.equal("nothing is left", x.flush(), 0);
        CHECKS.equal("a full row with the master's write", Stores.rowOf60WithMaster().flush(), 60);
    }

    private static void failOfNothing() {
        long[] all = {0, 1, -1, Long.MIN_VALUE, Long.MAX_VALUE};
        for (long done : all) {
            String due = Look.at(Stores::full);
            CHECKS.same("behind fail(" + done + ")", Look.at(() -> failed(Stores.full(), done)), due);
        }
    }

    private static FlipPages failed(FlipPages x, long done) {
        CHECKS.yes("fail(" + done + ")", x.fail(done));
        return x;
    }

    private static void failOfTheEnds() {
        CHECKS.equal("none", failed(Stores.rowOf60(), 0).disk(3, 0), 0);
        CHECKS.equal("number 0", failed(Stores.rowOf60(), 1).disk(3, 0), 1);
        CHECKS.equal("the last", failed(Stores.rowOf60(), 1L << 59).disk(3, 0), 60);
        CHECKS.equal("all but the last", failed(Stores.rowOf60(), ~(1L << 59)).disk(3, 0), 59);
        CHECKS.equal("those behind the last", failed(Stores.rowOf60(), -1L << 60).disk(3, 0), 0);
        CHECKS.equal("behind a row of one", failed(Stores.spilled(), ~1L).disk(2, 0), 0);
        CHECKS.equal("the only one", failed(Stores.spilled(), 1).disk(2, 0), 1);
        CHECKS.equal("the master's as number 0", failed(Stores.rowOf60WithMaster(), 1).total(3), 1);
        CHECKS.equal("all but the master's", failed(Stores.rowOf60WithMaster(), ~1L).total(3), 0);
    }

    private static void damage() {
        for (int sector : SECTOR_ENDS) {
            for (int i : BYTE_ENDS) {
                FlipPages x = new FlipPages();
                int first = x.disk(sector, i);
                CHECKS.equal("damage to 255", x.damage(sector, i, 255), first);
                CHECKS.equal("the byte is 255", x.disk(sector, i), 255);
                CHECKS.equal("damage to 0", x.damage(sector, i, 0), 255);
                CHECKS.equal("the byte is 0", x.disk(sector, i), 0);
                CHECKS.equal("damage to what it is", x.damage(sector, i, 0), 0);
            }
        }
    }

    private static void disk() {
        FlipPages x = new FlipPages();
        int value = 1;
        for (int sector : SECTOR_ENDS) {
            for (int i : BYTE_ENDS) {
                x.damage(sector, i, value++);
            }
        }
        value = 1;
        for (int sector : SECTOR_ENDS) {
            for (int i : BYTE_ENDS) {
                CHECKS.equal("disk(" + sector + ", " + i + ")", x.disk(sector, i), value++);
            }
        }
        CHECKS.equal("the sector before the last", x.disk(46, 15), 0);
        CHECKS.equal("the byte before the last", x.disk(47, 14), 0);
    }

    private static void places(FlipPages x, int page, int latest, int sure, int open) {
        CHECKS.equal("page " + page + " by the latest table", x.place(page, 0), latest);
        CHECKS.equal("page " + page + " by the sure table", x.place(page, 1), sure);
        CHECKS.equal("page " + page + " by the open change", x.place(page, 2), open);
    }

    private static void place() {
        FlipPages x = Stores.apart();
        x.write(15, 0, 1);
        x.write(0, 0, 1);
        places(x, 0, 1, 2, 36);
        places(x, 15, 33, 17, 35);
        places(x, 14, 32, 16, 32);
        FlipPages last = Stores.oneFree();
        last.write(15, 0, 1);
        places(last, 15, 33, 17, 47);
        FlipPages nowhere = new FlipPages();
        nowhere.write(0, 0, 1);
        places(nowhere, 0, 0, 0, 2);
        places(nowhere, 15, 0, 0, 0);
    }

    private static void placeWithoutAChange() {
        places(Stores.apart(), 0, 1, 2, 1);
        places(Stores.apart(), 15, 33, 17, 33);
        FlipPages x = Stores.crowded();
        x.abort();
        places(x, 0, 1, 2, 1);
    }

    private static void free() {
        for (Stores.State state : Stores.ALL) {
            FlipPages x = state.made().get();
            if (x.total(7) == 0) {
                CHECKS.no("the master's sector, " + state.name(), x.free(0));
            }
        }
        CHECKS.yes("the last sector of a new store", new FlipPages().free(47));
        CHECKS.yes("the last sector, when it alone is free", Stores.oneFree().free(47));
        CHECKS.no("the last sector, taken", Stores.crowded().free(47));
        CHECKS.no("the first table's sector", new FlipPages().free(1));
        CHECKS.yes("the first table's sector, turned over", Stores.full().free(1));
    }

    private static void held() {
        FlipPages x = new FlipPages();
        x.fill(0, 0x0807060504030201L, 0x100F0E0D0C0B0A09L);
        x.spill(0);
        x.fill(15, -1, -2);
        x.spill(15);
        CHECKS.equal("number 0's sector", x.held(0, FlipPages.NONE), 2);
        CHECKS.equal("number 0's byte 0", x.held(0, 0), 1);
        CHECKS.equal("number 0's byte 15", x.held(0, 15), 16);
        CHECKS.equal("number 1's sector", x.held(1, FlipPages.NONE), 3);
        CHECKS.equal("number 1's byte 0", x.held(1, 0), 255);
        CHECKS.equal("number 1's byte 8", x.held(1, 8), 254);
        CHECKS.equal("number 1's byte 15", x.held(1, 15), 255);
        FlipPages full = Stores.rowOf60();
        CHECKS.equal("number 0 of 60", full.held(0, 0), 1);
        CHECKS.equal("number 59 of 60", full.held(59, 0), 60);
        CHECKS.equal("number 59's sector", full.held(59, FlipPages.NONE), 3);
        FlipPages master = Stores.apart();
        CHECKS.equal("the master's sector", master.held(0, FlipPages.NONE), 0);
        CHECKS.equal("the master's table", master.held(0, 4), 34);
        FlipPages last = Stores.oneFree();
        last.write(12, 0, 1);
        last.spill(12);
        CHECKS.equal("the last sector", last.held(1, FlipPages.NONE), 47);
    }

    private static void totals(String what, FlipPages x, int... due) {
        for (int n = 0; n < 8; n++) {
            CHECKS.equal(what + ", total(" + n + ")", x.total(n), due[n]);
        }
    }

    private static void total() {
        totals("committed and flushed", Stores.full(), 0, -1, 30, 1, 18, 1, 18, 0);
        totals("spilled", Stores.spilled(), 1, 2, 44, 0, 1, 0, 1, 0);
        totals("apart", Stores.apart(), 1, -1, 13, 2, 34, 1, 18, 0);
        totals("broken", Stores.broken(), 0, -1, -1, -1, -1, -1, -1, 1);
        totals("broken by its table", Stores.brokenTable(), 0, -1, -1, -1, -1, -1, -1, 1);
    }

    private static void totalEnds() {
        totals("60 held back", Stores.rowOf60(), 60, 2, 44, 0, 1, 0, 1, 0);
        totals("one sector free", Stores.oneFree(), 1, 12, 1, 2, 34, 1, 18, 0);
        totals("no sector free", Stores.crowded(), 1, 13, 0, 2, 34, 1, 18, 0);
        totals("all pages changed", changed(16), 0, 16, 30, 0, 1, 0, 1, 0);
        FlipPages x = Stores.oneFree();
        x.commit(true);
        totals("a table in the last sector", x, 0, -1, 30, 3, 47, 3, 47, 0);
    }
}
