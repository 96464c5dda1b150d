/** Promises 10 and 11: fail and damage. */
public final class PowerTest {
    private static final Checks CHECKS = new Checks();

    public static void main(String[] args) {
        failDoesTheWritesOfItsBits();
        failKeepsTheirOrder();
        failOnTheMaster();
        failDropsTheOpenChange();
        damageChangesTheDiskAlone();
        damageWhileBroken();
        CHECKS.end();
    }

    private static FlipPages threeHeldBack() {
        FlipPages x = new FlipPages();
        for (int p = 0; p < 3; p++) {
            x.write(p, 0, p + 11);
            x.write(p, 15, p + 21);
            x.spill(p);
        }
        return x;
    }

    private static void failDoesTheWritesOfItsBits() {
        for (int done = 0; done < 8; done++) {
            FlipPages x = threeHeldBack();
            CHECKS.yes("fail(" + done + ")", x.fail(done));
            for (int k = 0; k < 3; k++) {
                boolean bit = (done >> k & 1) == 1;
                CHECKS.equal("sector " + (k + 2) + " by " + done, x.disk(k + 2, 0), bit ? k + 11 : 0);
                CHECKS.equal("its last byte", x.disk(k + 2, 15), bit ? k + 21 : 0);
            }
            CHECKS.equal("nothing is held back", x.total(0), 0);
        }
        FlipPages x = threeHeldBack();
        CHECKS.yes("fail with bits of no write", x.fail(-8L));
        CHECKS.equal("none is done", x.disk(2, 0) + x.disk(3, 0) + x.disk(4, 0), 0);
    }

    private static void failKeepsTheirOrder() {
        long[] done = {0, 1, 2, 3, 4, 5, 6, 7};
        int[] due = {0, 1, 2, 2, 3, 3, 3, 3};
        for (int n = 0; n < done.length; n++) {
            FlipPages x = new FlipPages();
            for (int b = 1; b <= 3; b++) {
                x.write(0, 0, b);
                x.spill(0);
            }
            x.fail(done[n]);
            CHECKS.equal("the sector by " + done[n], x.disk(2, 0), due[n]);
        }
    }

    private static void failOnTheMaster() {
        FlipPages lost = Stores.apart();
        CHECKS.yes("fail(0)", lost.fail(0));
        CHECKS.equal("the old generation", lost.total(3), 1);
        CHECKS.equal("the old table", lost.total(4), 18);
        CHECKS.equal("the old page", lost.read(0, 0, false), 1);
        CHECKS.equal("the others' sectors are free", lost.total(2), 30);
        FlipPages done = Stores.apart();
        CHECKS.yes("fail(1)", done.fail(1));
        CHECKS.equal("the new generation", done.total(3), 2);
        CHECKS.equal("it is sure", done.total(5), 2);
        CHECKS.equal("the new table", done.total(4), 34);
        CHECKS.equal("it is sure", done.total(6), 34);
        CHECKS.equal("the new place", done.place(0, 1), 1);
        CHECKS.equal("the new page", done.read(0, 0, false), 101);
    }

    private static void failDropsTheOpenChange() {
        FlipPages x = Stores.full();
        x.write(0, 0, 99);
        x.spill(0);
        x.fail(-1);
        CHECKS.equal("no change is open", x.total(1), -1);
        CHECKS.equal("the page", x.read(0, 0, false), 1);
        CHECKS.equal("its place", x.place(0, 2), 2);
        CHECKS.yes("the change's sector", x.free(1));
        CHECKS.equal("its write was done", x.disk(1, 0), 99);
    }

    private static FlipPages brokenWithARow() {
        FlipPages x = Stores.apart();
        x.write(0, 0, 1);
        x.spill(0);
        x.damage(0, 0, 1);
        x.fail(2);
        return x;
    }

    private static void damageChangesTheDiskAlone() {
        FlipPages x = Stores.full();
        CHECKS.equal("damage of the table", x.damage(18, 0, 48), 2);
        CHECKS.equal("damage of it again", x.damage(18, 0, 255), 48);
        CHECKS.equal("damage to what it was", x.damage(18, 0, 255), 255);
        CHECKS.equal("damage of the master", x.damage(0, 4, 200), 18);
        CHECKS.equal("the disk", x.disk(18, 0), 255);
        CHECKS.equal("page 0's place", x.place(0, 0), 2);
        CHECKS.equal("page 0's sure place", x.place(0, 1), 2);
        CHECKS.equal("the table's sector", x.total(4), 18);
        CHECKS.equal("free sectors", x.total(2), 30);
        CHECKS.equal("not broken", x.total(7), 0);
        x.write(1, 0, 9);
        x.commit(true);
        CHECKS.equal("the next table tells what the store knows", x.disk(x.total(4), 0), 2);
        CHECKS.yes("and it can be mounted", x.fail(0));
        x.write(2, 0, 8);
        x.spill(2);
        x.damage(x.held(0, -1), 1, 7);
        CHECKS.equal("what is held back stays", x.held(0, 1), 0);
        CHECKS.equal("damage of the last byte of all", x.damage(47, 15, 255), 0);
        CHECKS.equal("the last byte of all", x.disk(47, 15), 255);
    }

    private static void damageWhileBroken() {
        FlipPages x = brokenWithARow();
        CHECKS.equal("broken", x.total(7), 1);
        CHECKS.equal("nothing is held back", x.total(0), 0);
        CHECKS.equal("damage", x.damage(0, 0, 0), 1);
        CHECKS.yes("fail", x.fail(0));
        CHECKS.equal("the old generation", x.total(3), 1);
        CHECKS.equal("the spilled write was done", x.disk(35, 0), 1);
    }
}
