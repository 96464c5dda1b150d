import java.util.List;
import java.util.function.Supplier;

/** Stores in the states that several tests need. */
final class Stores {
    record State(String name, Supplier<FlipPages> made) {
    }

    static final List<State> ALL = List.of(
            new State("new", FlipPages::new),
            new State("spilled", Stores::spilled),
            new State("apart", Stores::apart),
            new State("one sector free", Stores::oneFree),
            new State("no sector free", Stores::crowded),
            new State("60 held back", Stores::rowOf60),
            new State("60 held back, the master's among them", Stores::rowOf60WithMaster),
            new State("broken", Stores::broken),
            new State("broken by its table", Stores::brokenTable));

    private Stores() {
    }

    /** All pages are changed and committed, page p's byte 0 being p + 1; sectors 2 .. 17, table in 18. */
    static FlipPages full() {
        FlipPages x = new FlipPages();
        for (int p = 0; p < 16; p++) {
            x.write(p, 0, p + 1);
        }
        x.commit(true);
        return x;
    }

    /** The latest table (pages 1, 19 .. 33, itself 34; not flushed) shares no sector with the sure one. */
    static FlipPages apart() {
        FlipPages x = full();
        for (int p = 0; p < 16; p++) {
            x.write(p, 0, p + 101);
        }
        x.commit(false);
        return x;
    }

    /** As apart, and of the 13 sectors that are left (35 .. 47) all but 47 are taken, by pages 0 .. 11. */
    static FlipPages oneFree() {
        FlipPages x = apart();
        for (int p = 0; p < 12; p++) {
            x.write(p, 0, p + 201);
        }
        return x;
    }

    /** As apart, and the 13 sectors that are left (35 .. 47) are taken by changes of pages 0 .. 12. */
    static FlipPages crowded() {
        FlipPages x = oneFree();
        x.write(12, 0, 213);
        return x;
    }

    /** By its master: the check is wrong. */
    static FlipPages broken() {
        FlipPages x = new FlipPages();
        x.write(0, 0, 1);
        x.commit(true);
        x.damage(0, 15, x.disk(0, 15) ^ 1);
        x.fail(0);
        return x;
    }

    /** A change was open and a write held back when the power failed, and page 0 lies nowhere that is. */
    static FlipPages brokenTable() {
        FlipPages x = spilled();
        x.damage(1, 0, 48);
        x.fail(1);
        return x;
    }

    /** Page 0 is changed and spilled (sector 2), page 1 is changed and not spilled (sector 3). */
    static FlipPages spilled() {
        FlipPages x = new FlipPages();
        x.write(0, 0, 1);
        x.write(1, 0, 2);
        x.spill(0);
        return x;
    }

    /** Exactly 60 writes are held back; pages 0 (spilled) and 1 (not spilled) are changed. */
    static FlipPages rowOf60() {
        FlipPages x = new FlipPages();
        x.write(1, 0, 77);
        for (int n = 1; n <= 60; n++) {
            x.write(0, 0, n);
            x.spill(0);
        }
        return x;
    }

    /** The master's write is one of the 60; page 0 is changed and not spilled. */
    static FlipPages rowOf60WithMaster() {
        FlipPages x = new FlipPages();
        x.write(0, 0, 1);
        x.commit(false);
        for (int n = 0; n < 59; n++) {
            x.write(0, 0, n);
            x.spill(0);
        }
        x.write(0, 0, 60);
        return x;
    }

    static void putSector(FlipPages x, int sector, int... bytes) {
        for (int i = 0; i < bytes.length; i++) {
            x.damage(sector, i, bytes[i]);
        }
    }

    /** A master with a right check, whatever its 14 first bytes are. */
    static int[] master(int... head) {
        int[] bytes = new int[16];
        long check = 1;
        for (int i = 0; i < 14; i++) {
            bytes[i] = i < head.length ? head[i] : 0;
            check = (check * 31 + bytes[i]) % 65536;
        }
        bytes[14] = (int) (check / 256);
        bytes[15] = (int) (check % 256);
        return bytes;
    }
}
