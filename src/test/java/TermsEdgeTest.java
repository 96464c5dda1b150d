/** The sentences under 'Terms' that name an edge; those of MOUNTING are in MountEdgeTest. */
public final class TermsEdgeTest {
    private static final Checks CHECKS = new Checks();

    public static void main(String[] args) {
        CHECKS.sentence("'or 0: it is all zeros'", TermsEdgeTest::aPageInZeroIsZeros);
        CHECKS.sentence("'modulo 65536'", TermsEdgeTest::checkAtItsEnds);
        CHECKS.sentence("'its GENERATION (high first)', 'its CHECK (high first)'", TermsEdgeTest::highFirst);
        CHECKS.sentence("'up to 60 by SPILLING'", TermsEdgeTest::upTo60);
        CHECKS.sentence("'COMMIT may come with more'", TermsEdgeTest::commitWithMore);
        CHECKS.sentence("'FLUSH: all are done, one after the other'", TermsEdgeTest::oneAfterTheOther);
        CHECKS.sentence("'each of them is done or lost'", TermsEdgeTest::doneOrLost);
        CHECKS.sentence("'each of them is done or lost', number 0 to 59", TermsEdgeTest::eachOf60);
        CHECKS.sentence("'a sector is written whole or not at all'", TermsEdgeTest::wholeOrNotAtAll);
        CHECKS.sentence("'whose master's write was done by a FLUSH'", TermsEdgeTest::sureByAFlush);
        CHECKS.sentence("'none of 0'", TermsEdgeTest::zeroIsNotFree);
        CHECKS.sentence("'those that the latest and the sure table tell, and their own'",
                TermsEdgeTest::tablesAreNotFree);
        CHECKS.sentence("'and those of the open change'", TermsEdgeTest::changedSectorsAreNotFree);
        CHECKS.sentence("'takes the FREE sector of the least number for it'", TermsEdgeTest::leastFree);
        CHECKS.sentence("'for the first time'", TermsEdgeTest::onlyTheFirstTime);
        CHECKS.sentence("the last FREE sector, and none", TermsEdgeTest::toTheLastSector);
        CHECKS.sentence("'as it is now'", TermsEdgeTest::asItIsNow);
        CHECKS.sentence("'another change later makes it unspilled'", TermsEdgeTest::unspilled);
        CHECKS.sentence("'writes of all changed pages that are not spilled'", TermsEdgeTest::notSpilled);
        CHECKS.sentence("'the new table, to the FREE sector of the least number'", TermsEdgeTest::theTablesSector);
        CHECKS.sentence("'FLUSH; then the write of the master is held back'", TermsEdgeTest::masterBehindTheFlush);
        CHECKS.sentence("'with a generation one more (modulo 2^32)'", TermsEdgeTest::generation);
        CHECKS.sentence("'what was held back is still done or lost'", TermsEdgeTest::heldBackBehindAnAbort);
        CHECKS.sentence("'A call that throws changes nothing', no change is opened", TermsEdgeTest::nothingIsOpened);
        CHECKS.end();
    }

    private static void aPageInZeroIsZeros() {
        FlipPages x = new FlipPages();
        x.write(7, 0, 5);
        x.commit(true);
        for (int i = 0; i < 16; i++) {
            x.damage(0, i, 255);
        }
        for (int i = 0; i < 16; i++) {
            CHECKS.equal("byte " + i + " of page 0", x.read(0, i, false), 0);
            CHECKS.equal("byte " + i + " of page 15", x.read(15, i, true), 0);
        }
        CHECKS.equal("what a write finds", x.write(15, 4, 1), 0);
        for (int i = 0; i < 16; i++) {
            CHECKS.equal("byte " + i + " of the changed page", x.read(15, i, false), i == 4 ? 1 : 0);
        }
        CHECKS.equal("page 0's place", x.place(0, 2), 0);
    }

    /** The first generation with this check, the table lying in sector 3. */
    private static int generationWith(int check) {
        for (int g = 1; g < 1 << 24; g++) {
            int[] master = master(g, 3);
            if (master[14] * 256 + master[15] == check) {
                return g;
            }
        }
        throw new IllegalStateException("no generation has this check");
    }

    private static int[] master(int generation, int tableSector) {
        return Stores.master(generation >>> 24, generation >> 16 & 255, generation >> 8 & 255, generation & 255,
                tableSector);
    }

    private static FlipPages withGeneration(int generation) {
        FlipPages x = new FlipPages();
        Stores.putSector(x, 0, master(generation, 1));
        CHECKS.yes("generation " + generation + " is mounted", x.fail(0));
        return x;
    }

    private static void checkAtItsEnds() {
        int[] checks = {0, 1, 255, 256, 32767, 32768, 65279, 65280, 65534, 65535};
        for (int check : checks) {
            int generation = generationWith(check);
            FlipPages x = withGeneration(generation - 1);
            x.write(0, 0, 1);
            x.commit(false);
            CHECKS.equal("the high byte of " + check, x.held(0, 14), check / 256);
            CHECKS.equal("the low byte of " + check, x.held(0, 15), check % 256);
            x.flush();
            CHECKS.yes("the master with " + check + " is mounted", x.fail(0));
            CHECKS.equal("its generation", x.total(3), generation);
        }
    }

    private static void highFirst() {
        FlipPages x = withGeneration(0x01020303);
        x.write(0, 0, 1);
        x.commit(true);
        int[] due = {1, 2, 3, 4, 3, 0, 0, 0, 0, 0, 0, 0, 0, 0};
        for (int i = 0; i < due.length; i++) {
            CHECKS.equal("byte " + i, x.disk(0, i), due[i]);
        }
        long check = 1;
        for (int b : due) {
            check = check * 31 % 65536 + b;
        }
        CHECKS.equal("the check", x.disk(0, 14) * 256 + x.disk(0, 15), check % 65536);
    }

    private static void upTo60() {
        FlipPages x = Stores.rowOf60();
        CHECKS.equal("held back", x.total(0), 60);
        CHECKS.same("the next one", Checks.thrown(() -> x.spill(1)), "java.lang.IllegalStateException");
        CHECKS.equal("held back still", x.total(0), 60);
        CHECKS.equal("flush", x.flush(), 60);
        for (int n = 1; n <= 60; n++) {
            x.write(0, 0, n);
            CHECKS.equal("behind a flush", x.spill(0), n);
        }
        CHECKS.same("and the next one", Checks.thrown(() -> x.spill(1)), "java.lang.IllegalStateException");
    }

    private static void commitWithMore() {
        for (int pages = 1; pages <= 16; pages++) {
            FlipPages x = Stores.rowOf60();
            for (int p = 0; p < pages; p++) {
                x.write(p, 1, p + 1);
            }
            CHECKS.equal("commit with " + pages + " pages", x.commit(false), 1);
            CHECKS.equal("only the master's write is held back", x.total(0), 1);
            for (int p = 0; p < pages; p++) {
                CHECKS.equal("page " + p, x.read(p, 1, true), p + 1);
            }
            CHECKS.equal("page 0's last spilled byte", x.read(0, 0, true), 60);
            CHECKS.equal("page 1, never spilled", x.read(1, 0, true), 77);
            CHECKS.equal("page 0 in the table", x.disk(x.total(4), 0), 3);
            CHECKS.yes("the new master is mounted", x.fail(1));
            CHECKS.equal("its generation", x.total(3), 1);
        }
    }

    private static void oneAfterTheOther() {
        FlipPages x = Stores.rowOf60();
        CHECKS.equal("before", x.disk(3, 0), 0);
        CHECKS.equal("flush", x.flush(), 60);
        CHECKS.equal("the last of one sector stands", x.disk(3, 0), 60);
        CHECKS.equal("nothing is held back", x.total(0), 0);
        FlipPages aborted = Stores.spilled();
        aborted.abort();
        aborted.write(9, 0, 90);
        aborted.spill(9);
        CHECKS.equal("flush", aborted.flush(), 2);
        CHECKS.equal("the later change's write of one sector stands", aborted.disk(2, 0), 90);
        FlipPages two = Stores.spilled();
        two.spill(1);
        CHECKS.equal("flush", two.flush(), 2);
        CHECKS.equal("the first of two sectors", two.disk(2, 0), 1);
        CHECKS.equal("the last of two sectors", two.disk(3, 0), 2);
    }

    /** A master's write, then three pages' of which two go to one sector. */
    private static FlipPages fourHeldBack() {
        FlipPages x = new FlipPages();
        x.write(0, 0, 1);
        x.commit(false);
        x.write(1, 0, 2);
        x.spill(1);
        x.write(2, 0, 3);
        x.spill(2);
        x.write(1, 0, 4);
        x.spill(1);
        return x;
    }

    private static void doneOrLost() {
        for (int done = 0; done < 16; done++) {
            FlipPages x = fourHeldBack();
            CHECKS.yes("fail(" + done + ")", x.fail(done));
            CHECKS.equal("the generation by " + done, x.total(3), done & 1);
            CHECKS.equal("the sure one by " + done, x.total(5), done & 1);
            CHECKS.equal("page 0 by " + done, x.read(0, 0, false), done & 1);
            CHECKS.equal("sector 4 by " + done, x.disk(4, 0), (done & 8) != 0 ? 4 : done & 2);
            CHECKS.equal("sector 5 by " + done, x.disk(5, 0), (done & 4) != 0 ? 3 : 0);
            CHECKS.equal("held back by " + done, x.total(0), 0);
            CHECKS.equal("flush by " + done, x.flush(), 0);
        }
    }

    private static void eachOf60() {
        for (int k = 0; k < 60; k++) {
            FlipPages x = Stores.rowOf60();
            x.fail(1L << k);
            CHECKS.equal("number " + k + " alone", x.disk(3, 0), k + 1);
            FlipPages y = Stores.rowOf60();
            y.fail((1L << k) - 1);
            CHECKS.equal("those before number " + k, y.disk(3, 0), k);
        }
    }

    private static void wholeOrNotAtAll() {
        for (int done = 0; done < 2; done++) {
            FlipPages x = new FlipPages();
            x.fill(0, 0x0807060504030201L, 0x100F0E0D0C0B0A09L);
            x.spill(0);
            Stores.putSector(x, 2, 91, 92, 93, 94, 95, 96, 97, 98, 99, 100, 101, 102, 103, 104, 105, 106);
            x.fail(done);
            for (int i = 0; i < 16; i++) {
                CHECKS.equal("byte " + i, x.disk(2, i), done == 1 ? i + 1 : i + 91);
            }
        }
    }

    private static void sureIs(String what, FlipPages x, int generation, int sector, int placeOfPage0) {
        CHECKS.equal("the sure generation " + what, x.total(5), generation);
        CHECKS.equal("the sure sector " + what, x.total(6), sector);
        CHECKS.equal("page 0's sure place " + what, x.place(0, 1), placeOfPage0);
    }

    private static void sureByAFlush() {
        FlipPages x = new FlipPages();
        x.write(0, 0, 1);
        x.commit(false);
        sureIs("before a flush", x, 0, 1, 0);
        x.write(0, 0, 2);
        x.spill(0);
        sureIs("before a flush still", x, 0, 1, 0);
        x.flush();
        sureIs("behind a flush", x, 1, 3, 2);
        x.commit(false);
        sureIs("behind the next commit", x, 1, 3, 2);
        x.write(0, 0, 3);
        x.commit(false);
        sureIs("behind the flush of a third commit", x, 2, 1, 4);
        x.write(0, 0, 4);
        x.commit(true);
        sureIs("behind a sure commit", x, 4, 3, 2);
        x.write(0, 0, 5);
        x.spill(0);
        x.flush();
        sureIs("behind a flush without a master", x, 4, 3, 2);
    }

    /** No page lies in 0 here, so that it is used by nothing but the master. */
    private static void zeroIsNotFree() {
        FlipPages x = Stores.full();
        CHECKS.no("free(0)", x.free(0));
        for (int p = 0; p < 16; p++) {
            x.write(p, 0, 1);
            CHECKS.no("page " + p + " in sector 0", x.place(p, 2) == 0);
        }
    }

    private static void frees(FlipPages x, String due) {
        StringBuilder free = new StringBuilder();
        for (int sector = 0; sector < 48; sector++) {
            free.append(x.free(sector) ? 'f' : '-');
        }
        CHECKS.same("the free sectors", free.toString(), due);
        CHECKS.equal("their number", x.total(2), due.chars().filter(c -> c == 'f').count());
    }

    private static void tablesAreNotFree() {
        frees(Stores.full(), "-f" + "-".repeat(17) + "f".repeat(29));
        FlipPages x = Stores.apart();
        frees(x, "-".repeat(35) + "f".repeat(13));
        x.flush();
        frees(x, "--" + "f".repeat(17) + "-".repeat(16) + "f".repeat(13));
        FlipPages lost = Stores.apart();
        lost.fail(0);
        frees(lost, "-f" + "-".repeat(17) + "f".repeat(29));
    }

    private static void changedSectorsAreNotFree() {
        FlipPages x = Stores.apart();
        x.write(4, 0, 1);
        x.write(5, 0, 1);
        x.spill(5);
        frees(x, "-".repeat(37) + "f".repeat(11));
        x.abort();
        frees(x, "-".repeat(35) + "f".repeat(13));
        CHECKS.equal("a write to one of them is held back still", x.held(1, FlipPages.NONE), 36);
        frees(Stores.oneFree(), "-".repeat(47) + "f");
        frees(Stores.crowded(), "-".repeat(48));
    }

    private static int sectorOf(FlipPages x, int page) {
        x.write(page, 0, 1);
        return x.place(page, 2);
    }

    private static void leastFree() {
        FlipPages x = Stores.full();
        CHECKS.equal("the old table's sector", sectorOf(x, 5), 1);
        CHECKS.equal("behind the used ones", sectorOf(x, 9), 19);
        x.commit(true);
        CHECKS.equal("the table's sector", x.total(4), 20);
        CHECKS.equal("page 5's old one", sectorOf(x, 15), 7);
        CHECKS.equal("page 9's old one", sectorOf(x, 0), 11);
        CHECKS.equal("the old table's", sectorOf(x, 1), 18);
        CHECKS.equal("the first behind all", sectorOf(x, 2), 21);
        x.abort();
        CHECKS.equal("the same again behind an abort", sectorOf(x, 3), 7);
    }

    private static void onlyTheFirstTime() {
        FlipPages x = new FlipPages();
        for (int n = 0; n < 3; n++) {
            CHECKS.equal("page 6's sector", sectorOf(x, 6), 2);
            x.fill(6, n, n);
            CHECKS.equal("page 6's sector behind a fill", x.place(6, 2), 2);
            x.spill(6);
        }
        CHECKS.equal("free sectors", x.total(2), 45);
        CHECKS.equal("pages changed", x.total(1), 1);
        x.commit(true);
        CHECKS.equal("the first time in the next change", sectorOf(x, 6), 1);
    }

    private static void toTheLastSector() {
        FlipPages x = Stores.apart();
        for (int p = 0; p < 13; p++) {
            CHECKS.equal("page " + p, sectorOf(x, p), p + 35);
            CHECKS.equal("sectors left", x.total(2), 12 - p);
        }
        CHECKS.same("the next", Checks.thrown(() -> x.write(13, 0, 1)), "java.lang.IllegalStateException");
        CHECKS.equal("a page that has one", sectorOf(x, 12), 47);
        x.flush();
        CHECKS.equal("when the old table is not the sure one", sectorOf(x, 13), 2);
    }

    private static void asItIsNow() {
        FlipPages x = new FlipPages();
        x.write(0, 0, 1);
        x.write(0, 15, 2);
        x.spill(0);
        x.write(0, 0, 3);
        CHECKS.equal("byte 0 of the held back write", x.held(0, 0), 1);
        CHECKS.equal("byte 15 of the held back write", x.held(0, 15), 2);
        x.spill(0);
        CHECKS.equal("byte 0 of the next", x.held(1, 0), 3);
        CHECKS.equal("byte 15 of the next", x.held(1, 15), 2);
        CHECKS.equal("the first one still", x.held(0, 0), 1);
    }

    private static void unspilled() {
        FlipPages x = new FlipPages();
        x.write(0, 0, 1);
        x.spill(0);
        x.write(0, 1, 2);
        CHECKS.equal("spill behind a write", x.spill(0), 2);
        x.fill(0, 3, 4);
        CHECKS.equal("spill behind a fill", x.spill(0), 3);
        x.write(0, 0, 3);
        CHECKS.equal("spill behind a write of what it was", x.spill(0), 4);
        x.flush();
        x.write(0, 0, 5);
        CHECKS.equal("spill behind a flush and a write", x.spill(0), 1);
        x.write(0, 0, 6);
        x.commit(false);
        CHECKS.equal("a commit writes it, unspilled", x.read(0, 0, true), 6);
        x.write(0, 0, 7);
        CHECKS.equal("nothing is spilled in a new change", x.spill(0), 2);
        x.abort();
        x.write(0, 0, 8);
        CHECKS.equal("nor behind an abort", x.spill(0), 3);
        x.fail(0);
        x.write(0, 0, 9);
        CHECKS.equal("nor when the power was off", x.spill(0), 1);
        x.format();
        x.write(0, 0, 9);
        CHECKS.equal("nor when it is formatted", x.spill(0), 1);
    }

    /** What is on the disk tells whether a page was written again: its sectors are damaged in between. */
    private static void notSpilled() {
        FlipPages x = new FlipPages();
        for (int p = 0; p < 16; p++) {
            x.write(p, 0, p + 1);
            if (p % 2 == 0) {
                x.spill(p);
            }
        }
        x.flush();
        x.write(4, 0, 5);
        for (int p = 0; p < 16; p++) {
            x.damage(p + 2, 0, 99);
        }
        x.commit(false);
        for (int p = 0; p < 16; p++) {
            boolean written = p % 2 == 1 || p == 4;
            CHECKS.equal("page " + p, x.disk(p + 2, 0), written ? p + 1 : 99);
        }
    }

    private static void theTablesSector() {
        FlipPages x = Stores.full();
        x.write(0, 0, 1);
        x.commit(false);
        CHECKS.equal("behind the page's", x.total(4), 19);
        x.write(0, 0, 2);
        x.commit(false);
        // The flush of this commit frees 2 and 18, but the table's write is held back before it.
        CHECKS.equal("none that its own flush frees", x.total(4), 21);
        x.write(0, 0, 3);
        CHECKS.equal("the page takes the first of them", x.place(0, 2), 2);
        x.commit(false);
        CHECKS.equal("and the table the second", x.total(4), 18);
        FlipPages last = Stores.oneFree();
        last.commit(false);
        CHECKS.equal("the last of all", last.total(4), 47);
        CHECKS.equal("where it is written", last.disk(47, 11), 46);
    }

    private static void masterBehindTheFlush() {
        FlipPages x = Stores.spilled();
        CHECKS.equal("commit", x.commit(false), 1);
        CHECKS.equal("one write is held back", x.total(0), 1);
        CHECKS.equal("the master's", x.held(0, FlipPages.NONE), 0);
        int[] due = master(1, 4);
        for (int i = 0; i < 16; i++) {
            CHECKS.equal("its byte " + i, x.held(0, i), due[i]);
        }
        CHECKS.equal("the disk's master is the old one", x.disk(0, 4), 1);
        CHECKS.equal("the table is written", x.disk(4, 0), 2);
        CHECKS.equal("the pages are written", x.disk(2, 0) * 10 + x.disk(3, 0), 12);
        FlipPages sure = Stores.spilled();
        CHECKS.equal("commit(true)", sure.commit(true), 1);
        CHECKS.equal("nothing is held back", sure.total(0), 0);
        CHECKS.equal("the disk's master is the new one", sure.disk(0, 4), 4);
    }

    private static void generation() {
        int[] generations = {0, 1, 127, 254, 255, 256, 32767, 65534, 65535, 0xFFFFFE, 0xFFFFFF,
            Integer.MAX_VALUE - 1, Integer.MAX_VALUE, Integer.MIN_VALUE, -256, -2, -1};
        for (int generation : generations) {
            FlipPages x = withGeneration(generation);
            int next = (int) ((long) generation + 1);
            CHECKS.equal("it is the latest", x.total(3), generation);
            x.write(0, 0, 1);
            CHECKS.equal("commit behind " + generation, x.commit(false), next);
            CHECKS.equal("the latest one", x.total(3), next);
            CHECKS.equal("the sure one", x.total(5), generation);
            for (int i = 0; i < 4; i++) {
                CHECKS.equal("byte " + i, x.held(0, i), master(next, 3)[i]);
            }
            CHECKS.yes("fail", x.fail(1));
            CHECKS.equal("it is mounted", x.total(3), next);
            CHECKS.equal("and sure", x.total(5), next);
        }
    }

    private static void heldBackBehindAnAbort() {
        FlipPages x = Stores.spilled();
        CHECKS.equal("abort", x.abort(), 2);
        CHECKS.equal("held back", x.total(0), 1);
        CHECKS.equal("flush", x.flush(), 1);
        CHECKS.equal("it is done", x.disk(2, 0), 1);
        CHECKS.equal("what was not held back is not", x.disk(3, 0), 0);
        for (int done = 0; done < 2; done++) {
            FlipPages y = Stores.spilled();
            y.abort();
            y.fail(done);
            CHECKS.equal("by fail(" + done + ")", y.disk(2, 0), done);
        }
    }

    private static void nothingIsOpened() {
        FlipPages x = new FlipPages();
        Checks.thrown(() -> x.write(16, 0, 0));
        Checks.thrown(() -> x.write(0, -1, 0));
        Checks.thrown(() -> x.write(0, 0, 256));
        Checks.thrown(() -> x.fill(-1, 0, 0));
        CHECKS.equal("pages changed", x.total(1), FlipPages.NONE);
        CHECKS.equal("free sectors", x.total(2), 46);
        CHECKS.same("abort", Checks.thrown(x::abort), "java.lang.IllegalStateException");
        CHECKS.same("commit", Checks.thrown(() -> x.commit(true)), "java.lang.IllegalStateException");
    }
}
