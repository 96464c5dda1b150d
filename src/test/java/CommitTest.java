/** Promises 7 and 9: commit and flush. */
public final class CommitTest {
    private static final Checks CHECKS = new Checks();

    public static void main(String[] args) {
        commitWritesPagesAndTable();
        commitHoldsBackTheMaster();
        sureCommitFlushesTheMaster();
        theFlushOfACommitMakesTheOneBeforeSure();
        writesHeldBackBeforeAreDoneFirst();
        flushDoesAllInOrder();
        flushWithoutAMasterKeepsTheSureTable();
        flushKeepsTheOpenChange();
        CHECKS.end();
    }

    private static void commitWritesPagesAndTable() {
        FlipPages x = new FlipPages();
        x.write(12, 5, 66);
        x.write(3, 1, 77);
        CHECKS.equal("commit", x.commit(false), 1);
        CHECKS.equal("page 12 on the disk", x.disk(2, 5), 66);
        CHECKS.equal("page 3 on the disk", x.disk(3, 1), 77);
        for (int p = 0; p < 16; p++) {
            CHECKS.equal("the table's byte " + p, x.disk(4, p), p == 12 ? 2 : p == 3 ? 3 : 0);
        }
        CHECKS.equal("no change is open", x.total(1), -1);
        CHECKS.equal("the latest table's generation", x.total(3), 1);
        CHECKS.equal("the latest table's sector", x.total(4), 4);
        CHECKS.equal("the sure table's generation", x.total(5), 0);
        CHECKS.equal("the sure table's sector", x.total(6), 1);
        CHECKS.no("the sure table's sector is free", x.free(1));
        x.write(12, 5, 67);
        CHECKS.equal("the next commit", x.commit(false), 2);
        CHECKS.equal("it keeps the pages it did not change", x.disk(x.total(4), 3), 3);
        CHECKS.equal("and moves the others", x.disk(x.total(4), 12), 5);
    }

    private static void commitHoldsBackTheMaster() {
        FlipPages x = Stores.full();
        x.write(0, 0, 9);
        x.commit(false);
        CHECKS.equal("one write is held back", x.total(0), 1);
        CHECKS.equal("it is the master's", x.held(0, -1), 0);
        int[] due = Stores.master(0, 0, 0, 2, 19);
        for (int i = 0; i < 16; i++) {
            CHECKS.equal("the new master's byte " + i, x.held(0, i), due[i]);
        }
        CHECKS.equal("the old master is on the disk", x.disk(0, 4), 18);
        x.flush();
        for (int i = 0; i < 16; i++) {
            CHECKS.equal("the flushed master's byte " + i, x.disk(0, i), due[i]);
        }
    }

    private static void sureCommitFlushesTheMaster() {
        FlipPages x = new FlipPages();
        x.write(0, 0, 9);
        CHECKS.equal("commit(true)", x.commit(true), 1);
        CHECKS.equal("nothing is held back", x.total(0), 0);
        CHECKS.equal("the master's generation on the disk", x.disk(0, 3), 1);
        CHECKS.equal("the master's table on the disk", x.disk(0, 4), 3);
        CHECKS.equal("the sure generation", x.total(5), 1);
        CHECKS.equal("the sure sector", x.total(6), 3);
        CHECKS.equal("the sure place", x.place(0, 1), 2);
        CHECKS.yes("the old table's sector is free", x.free(1));
    }

    private static void theFlushOfACommitMakesTheOneBeforeSure() {
        FlipPages x = new FlipPages();
        x.write(0, 0, 1);
        x.commit(false);
        x.write(0, 0, 2);
        x.commit(false);
        CHECKS.equal("the latest generation", x.total(3), 2);
        CHECKS.equal("the sure generation", x.total(5), 1);
        CHECKS.equal("the sure sector", x.total(6), 3);
        CHECKS.equal("page 0 by the sure table", x.place(0, 1), 2);
        CHECKS.equal("page 0 by the latest table", x.place(0, 0), 4);
        CHECKS.equal("the master's generation on the disk", x.disk(0, 3), 1);
        CHECKS.yes("the power fails", x.fail(0));
        CHECKS.equal("page 0 behind it", x.read(0, 0, false), 1);
    }

    private static void writesHeldBackBeforeAreDoneFirst() {
        FlipPages x = new FlipPages();
        x.write(0, 0, 1);
        x.write(1, 0, 2);
        x.spill(0);
        x.spill(1);
        x.abort();
        x.write(5, 0, 50);
        x.commit(false);
        CHECKS.equal("the page wins over the aborted write", x.disk(2, 0), 50);
        CHECKS.equal("the table wins over the aborted write", x.disk(3, 5), 2);
        CHECKS.equal("of which nothing is left", x.disk(3, 0), 0);
    }

    private static void flushDoesAllInOrder() {
        FlipPages x = new FlipPages();
        CHECKS.equal("flush of nothing", x.flush(), 0);
        x.write(0, 0, 1);
        x.spill(0);
        x.write(0, 0, 2);
        x.spill(0);
        x.write(1, 0, 3);
        x.spill(1);
        x.write(0, 0, 4);
        CHECKS.equal("flush", x.flush(), 3);
        CHECKS.equal("nothing is held back", x.total(0), 0);
        CHECKS.equal("the later write counts", x.disk(2, 0), 2);
        CHECKS.equal("the third write", x.disk(3, 0), 3);
        CHECKS.equal("flush again", x.flush(), 0);
        CHECKS.equal("flush of 60", Stores.rowOf60().flush(), 60);
    }

    private static void flushWithoutAMasterKeepsTheSureTable() {
        FlipPages x = new FlipPages();
        x.write(0, 0, 1);
        x.commit(false);
        CHECKS.equal("flush with the master", x.flush(), 1);
        CHECKS.equal("the sure generation", x.total(5), 1);
        CHECKS.equal("the sure sector", x.total(6), 3);
        CHECKS.yes("the old sector is free", x.free(1));
        x.write(0, 0, 2);
        x.spill(0);
        x.flush();
        CHECKS.equal("the sure place", x.place(0, 1), 2);
        CHECKS.equal("the sure generation still", x.total(5), 1);
    }

    private static void flushKeepsTheOpenChange() {
        FlipPages x = Stores.apart();
        x.write(3, 0, 9);
        CHECKS.equal("its sector", x.place(3, 2), 35);
        x.flush();
        CHECKS.equal("pages changed", x.total(1), 1);
        CHECKS.equal("its sector still", x.place(3, 2), 35);
        CHECKS.equal("its byte", x.read(3, 0, false), 9);
        CHECKS.equal("what the disk has", x.disk(35, 0), 0);
        CHECKS.equal("it is not spilled", x.spill(3), 1);
    }
}
