/** Promises 3 to 6 and 8: write, fill, read, spill, abort. */
public final class ChangeTest {
    private static final Checks CHECKS = new Checks();

    public static void main(String[] args) {
        writeAnswersWhatTheByteWas();
        firstChangeTakesTheLeastFreeSector();
        firstChangeCopiesThePage();
        fillSetsAllBytes();
        readFollowsTheOpenChange();
        spillHoldsBackThePageAsItIs();
        abortDropsTheChange();
        CHECKS.end();
    }

    private static void writeAnswersWhatTheByteWas() {
        FlipPages x = new FlipPages();
        CHECKS.equal("the first write", x.write(15, 15, 255), 0);
        CHECKS.equal("the second write", x.write(15, 15, 0), 255);
        CHECKS.equal("the third write", x.write(15, 15, 3), 0);
        CHECKS.equal("a write to another byte", x.write(15, 0, 4), 0);
        CHECKS.equal("pages changed", x.total(1), 1);
        x.commit(false);
        CHECKS.equal("a write after a commit", x.write(15, 15, 5), 3);
        CHECKS.equal("nothing is written in place", x.disk(2, 15), 3);
        CHECKS.equal("nor is anything held back but the master", x.total(0), 1);
    }

    private static void firstChangeTakesTheLeastFreeSector() {
        FlipPages x = new FlipPages();
        x.write(9, 0, 1);
        x.write(4, 0, 1);
        x.write(9, 1, 1);
        CHECKS.equal("the first page's sector", x.place(9, 2), 2);
        CHECKS.equal("the next page's sector", x.place(4, 2), 3);
        x.commit(true);
        x.fill(0, 0, 0);
        CHECKS.equal("the old table's sector comes first again", x.place(0, 2), 1);
        x.fill(1, 0, 0);
        CHECKS.equal("then those behind what is used", x.place(1, 2), 5);
    }

    private static void firstChangeCopiesThePage() {
        FlipPages x = new FlipPages();
        x.fill(2, 0x0807060504030201L, 0x100F0E0D0C0B0A09L);
        x.commit(true);
        x.damage(2, 7, 99);
        x.write(2, 0, 50);
        x.damage(2, 8, 98);
        CHECKS.equal("the changed byte", x.read(2, 0, false), 50);
        CHECKS.equal("a byte beside it", x.read(2, 1, false), 2);
        CHECKS.equal("a byte damaged before the change", x.read(2, 7, false), 99);
        CHECKS.equal("a byte damaged after it", x.read(2, 8, false), 9);
        x.abort();
        x.fill(5, -1, -1);
        x.abort();
        x.write(5, 1, 6);
        CHECKS.equal("a page that lies nowhere begins with zeros", x.read(5, 0, false), 0);
        CHECKS.equal("to its last byte", x.read(5, 15, false), 0);
        x.abort();
        x.write(2, 1, 7);
        CHECKS.equal("nothing is left of an aborted change", x.read(2, 0, false), 1);
    }

    private static void fillSetsAllBytes() {
        FlipPages x = new FlipPages();
        CHECKS.equal("fill of the first page", x.fill(3, 0x8877665544332211L, 0xFFEEDDCCBBAA0099L), 1);
        int[] due = {0x11, 0x22, 0x33, 0x44, 0x55, 0x66, 0x77, 0x88, 0x99, 0, 0xAA, 0xBB, 0xCC, 0xDD, 0xEE, 0xFF};
        for (int i = 0; i < 16; i++) {
            CHECKS.equal("byte " + i + " of the filled page", x.read(3, i, false), due[i]);
        }
        CHECKS.equal("fill of it again", x.fill(3, 0, -1), 1);
        CHECKS.equal("its byte 7", x.read(3, 7, false), 0);
        CHECKS.equal("its byte 8", x.read(3, 8, false), 255);
        x.write(0, 0, 1);
        CHECKS.equal("fill of a third page", x.fill(15, 1, 1), 3);
        CHECKS.equal("by the latest table", x.read(3, 8, true), 0);
        x.commit(false);
        CHECKS.equal("fill in the next change", x.fill(15, 2, 2), 1);
    }

    private static void readFollowsTheOpenChange() {
        FlipPages x = Stores.full();
        x.write(4, 0, 200);
        CHECKS.equal("a changed page", x.read(4, 0, false), 200);
        CHECKS.equal("a changed page by the latest table", x.read(4, 0, true), 5);
        CHECKS.equal("another page", x.read(5, 0, false), 6);
        x.damage(7, 0, 123);
        CHECKS.equal("another page, damaged", x.read(5, 0, false), 123);
        x.damage(6, 0, 124);
        CHECKS.equal("the changed page, damaged", x.read(4, 0, true), 124);
        CHECKS.equal("the changed page in the change", x.read(4, 0, false), 200);
        x.commit(false);
        CHECKS.equal("without a change", x.read(4, 0, false), 200);
        CHECKS.equal("without a change by latest", x.read(4, 0, true), 200);
        x.fail(0);
        CHECKS.equal("after the master was lost", x.read(4, 0, false), 124);
    }

    private static void spillHoldsBackThePageAsItIs() {
        FlipPages x = new FlipPages();
        x.fill(6, 0x0807060504030201L, 0x100F0E0D0C0B0A09L);
        x.write(7, 3, 33);
        CHECKS.equal("the first spill", x.spill(6), 1);
        CHECKS.equal("the second spill", x.spill(7), 2);
        x.write(6, 0, 90);
        CHECKS.equal("the first write's sector", x.held(0, -1), 2);
        for (int i = 0; i < 16; i++) {
            CHECKS.equal("the first write's byte " + i, x.held(0, i), i + 1);
        }
        CHECKS.equal("the second write's sector", x.held(1, -1), 3);
        CHECKS.equal("the second write's byte 3", x.held(1, 3), 33);
        CHECKS.equal("the disk before a flush", x.disk(2, 0), 0);
        x.flush();
        CHECKS.equal("the disk behind a flush", x.disk(2, 0), 1);
        CHECKS.equal("the page goes on as changed", x.read(6, 0, false), 90);
        CHECKS.equal("and keeps its sector", x.place(6, 2), 2);
    }

    private static void abortDropsTheChange() {
        FlipPages x = Stores.full();
        x.write(0, 0, 80);
        x.write(1, 0, 81);
        x.write(1, 0, 82);
        x.spill(0);
        CHECKS.equal("abort", x.abort(), 2);
        CHECKS.equal("no change is open", x.total(1), -1);
        CHECKS.equal("the page is the latest one's", x.read(0, 0, false), 1);
        CHECKS.equal("it lies where it lay", x.place(0, 2), 2);
        CHECKS.yes("its sector is free", x.free(1));
        CHECKS.equal("all its sectors are", x.total(2), 30);
        CHECKS.equal("what was held back still is", x.total(0), 1);
        CHECKS.equal("flush", x.flush(), 1);
        CHECKS.equal("and is done", x.disk(1, 0), 80);
        CHECKS.equal("what was not held back is not", x.disk(19, 0), 0);
    }
}
