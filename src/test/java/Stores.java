/** Stores in the states that several tests need, and a look at what can be seen of one. */
final class Stores {
    private Stores() {
    }

    /** All pages are changed and committed, page p's byte 0 being p + 1; sectors 2 .. 17, table in 18. */
    static FlipPages full() {
        FlipPages x = new FlipPages();
        for (int p = 0; p < 16; p++) {
            x.write(p, 0, p + 1);
        }
        x.commit(true);
        return x;
    }

    /** The latest table (pages 1, 19 .. 33, itself 34; not flushed) shares no sector with the sure one. */
    static FlipPages apart() {
        FlipPages x = full();
        for (int p = 0; p < 16; p++) {
            x.write(p, 0, p + 101);
        }
        x.commit(false);
        return x;
    }

    /** As apart, and the 13 sectors that are left (35 .. 47) are taken by changes of pages 0 .. 12. */
    static FlipPages crowded() {
        FlipPages x = apart();
        for (int p = 0; p < 13; p++) {
            x.write(p, 0, p + 201);
        }
        return x;
    }

    static FlipPages broken() {
        FlipPages x = new FlipPages();
        x.write(0, 0, 1);
        x.commit(true);
        x.damage(0, 15, x.disk(0, 15) ^ 1);
        x.fail(0);
        return x;
    }

    /** Exactly 60 writes are held back; pages 0 (spilled) and 1 (not spilled) are changed. */
    static FlipPages rowOf60() {
        FlipPages x = new FlipPages();
        x.write(1, 0, 77);
        for (int n = 1; n <= 60; n++) {
            x.write(0, 0, n);
            x.spill(0);
        }
        return x;
    }

    static void putSector(FlipPages x, int sector, int... bytes) {
        for (int i = 0; i < bytes.length; i++) {
            x.damage(sector, i, bytes[i]);
        }
    }

    /** A master with a right check, whatever its 14 first bytes are. */
    static int[] master(int... head) {
        int[] bytes = new int[16];
        long check = 1;
        for (int i = 0; i < 14; i++) {
            bytes[i] = i < head.length ? head[i] : 0;
            check = (check * 31 + bytes[i]) % 65536;
        }
        bytes[14] = (int) (check / 256);
        bytes[15] = (int) (check % 256);
        return bytes;
    }

    /** What can be seen of a store, in some 300 calls, so that an object stays below its 512. */
    static String look(FlipPages x) {
        StringBuilder seen = new StringBuilder("totals");
        for (int what = 0; what < 8; what++) {
            seen.append(' ').append(x.total(what));
        }
        seen.append("\ndisk");
        for (int sector = 0; sector < 48; sector++) {
            seen.append(' ').append(x.disk(sector, sector == 0 ? 15 : 0));
        }
        seen.append("\nheld");
        int held = x.total(0);
        for (int k = 0; k < held; k++) {
            seen.append(' ').append(x.held(k, -1)).append(':').append(x.held(k, 0));
        }
        if (x.total(7) == 0) {
            lookAtPages(x, seen);
        }
        return seen.toString();
    }

    private static void lookAtPages(FlipPages x, StringBuilder seen) {
        seen.append("\npages");
        for (int page = 0; page < 16; page++) {
            seen.append(' ').append(x.place(page, 0)).append('/').append(x.place(page, 1));
            seen.append('/').append(x.place(page, 2));
            seen.append(':').append(x.read(page, 0, true)).append('/').append(x.read(page, 0, false));
        }
        seen.append("\nfree");
        for (int sector = 0; sector < 48; sector++) {
            seen.append(x.free(sector) ? " y" : " n");
        }
    }
}
