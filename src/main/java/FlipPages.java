import java.util.Arrays;

/** Pages that are never written in place: a commit writes a new table and turns over to it by one sector. */
public final class FlipPages {
    public static final int NONE = -1;

    private static final int SECTORS = 48;
    private static final int PAGES = 16;
    private static final int BYTES = 16;
    private static final int GREATEST_BYTE = 255;

    private static final int MASTER = 0;
    private static final int TABLE_AT = 4;
    private static final int CHECK_AT = 14;
    private static final int FIRST_TABLE = 1;

    private static final int SPILL_LIMIT = 60;
    /** Behind a row that spilling has filled, a commit still holds back its pages and its table. */
    private static final int ROW_ROOM = SPILL_LIMIT + PAGES + 1;

    private final int[][] sectors = new int[SECTORS][BYTES];
    private final Row row = new Row();
    private final Table latestTable = new Table();
    private final Table sureTable = new Table();
    private final Change change = new Change();
    /** Where tables and masters are put together; kept, so that no call makes an array. */
    private final int[] draft = new int[BYTES];
    private boolean broken;

    public FlipPages() {
        formatAndMount();
    }

    public void format() {
        formatAndMount();
    }

    public int write(int page, int i, int b) throws IllegalArgumentException, IllegalStateException {
        checkPage(page);
        checkIndex(i);
        checkByte(b);
        checkMounted();
        changePage(page);
        int before = change.bytes[page][i];
        change.bytes[page][i] = b;
        return before;
    }

    public int fill(int page, long w, long v) throws IllegalArgumentException, IllegalStateException {
        checkPage(page);
        checkMounted();
        changePage(page);
        int[] bytes = change.bytes[page];
        int half = BYTES / 2;
        for (int i = 0; i < half; i++) {
            bytes[i] = (int) (w >>> (8 * i)) & GREATEST_BYTE;
            bytes[half + i] = (int) (v >>> (8 * i)) & GREATEST_BYTE;
        }
        return change.count;
    }

    public int read(int page, int i, boolean latest) throws IllegalArgumentException, IllegalStateException {
        checkPage(page);
        checkIndex(i);
        checkMounted();
        if (!latest && change.has(page)) {
            return change.bytes[page][i];
        }
        int sector = latestTable.where[page];
        // A page that lies nowhere is zeros: what sector 0 holds is the master.
        return sector == 0 ? 0 : sectors[sector][i];
    }

    public int spill(int page) throws IllegalArgumentException, IllegalStateException {
        checkPage(page);
        if (!change.has(page) || change.spilled[page]) {
            throw new IllegalArgumentException("the page has no change that could be spilled");
        }
        if (row.size >= SPILL_LIMIT) {
            throw new IllegalStateException("too many writes are held back");
        }
        holdBackPage(page);
        return row.size;
    }

    public int commit(boolean sure) throws IllegalStateException {
        checkMounted();
        checkOpen();
        // Chosen before the flush, which may free sectors: until then the disk may still turn to the sure table.
        int tableSector = leastFree();
        if (tableSector == NONE) {
            throw new IllegalStateException("no sector is free for the table");
        }
        holdBackUnspilledPages();
        holdBackTable(tableSector);
        carryOutAll();
        turnOver(tableSector);
        if (sure) {
            carryOutAll();
        }
        return latestTable.generation;
    }

    public int abort() throws IllegalStateException {
        checkMounted();
        checkOpen();
        int changed = change.count;
        change.close();
        return changed;
    }

    public int flush() throws IllegalStateException {
        checkMounted();
        return carryOutAll();
    }

    public boolean fail(long done) {
        for (int k = 0; k < row.size; k++) {
            if (((done >>> k) & 1L) != 0L) {
                row.carryOut(k, sectors);
            }
        }
        mount();
        return !broken;
    }

    public int damage(int sector, int i, int b) throws IllegalArgumentException {
        checkSector(sector);
        checkIndex(i);
        checkByte(b);
        int before = sectors[sector][i];
        sectors[sector][i] = b;
        return before;
    }

    public int disk(int sector, int i) throws IllegalArgumentException {
        checkSector(sector);
        checkIndex(i);
        return sectors[sector][i];
    }

    public int place(int page, int which) throws IllegalArgumentException, IllegalStateException {
        checkPage(page);
        if (which < 0 || which > 2) {
            throw new IllegalArgumentException("no such table");
        }
        checkMounted();
        if (which == 0) {
            return latestTable.where[page];
        }
        return which == 1 ? sureTable.where[page] : openPlace(page);
    }

    public boolean free(int sector) throws IllegalArgumentException, IllegalStateException {
        checkSector(sector);
        checkMounted();
        return holds(freeSet(), sector);
    }

    public int held(int k, int i) throws IllegalArgumentException {
        if (k < 0 || k >= row.size) {
            throw new IllegalArgumentException("no such write is held back");
        }
        if (i == NONE) {
            return row.target[k];
        }
        checkIndex(i);
        return row.bytes[k][i];
    }

    public int total(int what) throws IllegalArgumentException {
        if (what < 0 || what > 7) {
            throw new IllegalArgumentException("no such total");
        }
        if (what == 0) {
            return row.size;
        }
        if (what == 7) {
            return broken ? 1 : 0;
        }
        return broken ? NONE : mountedTotal(what);
    }

    private int mountedTotal(int what) {
        switch (what) {
            case 1:
                return change.isOpen() ? change.count : NONE;
            case 2:
                return Long.bitCount(freeSet());
            case 3:
                return latestTable.generation;
            case 4:
                return latestTable.sector;
            case 5:
                return sureTable.generation;
            default:
                return sureTable.sector;
        }
    }

    private static void checkPage(int page) {
        if (page < 0 || page >= PAGES) {
            throw new IllegalArgumentException("no such page");
        }
    }

    private static void checkSector(int sector) {
        if (sector < 0 || sector >= SECTORS) {
            throw new IllegalArgumentException("no such sector");
        }
    }

    private static void checkIndex(int i) {
        if (i < 0 || i >= BYTES) {
            throw new IllegalArgumentException("no such byte");
        }
    }

    private static void checkByte(int b) {
        if (b < 0 || b > GREATEST_BYTE) {
            throw new IllegalArgumentException("not the number of a byte");
        }
    }

    private void checkMounted() {
        if (broken) {
            throw new IllegalStateException("the store is broken");
        }
    }

    private void checkOpen() {
        if (!change.isOpen()) {
            throw new IllegalStateException("no change is open");
        }
    }

    private void formatAndMount() {
        for (int s = 0; s < SECTORS; s++) {
            Arrays.fill(sectors[s], 0);
        }
        putMaster(sectors[MASTER], 0, FIRST_TABLE);
        mount();
    }

    private void mount() {
        row.size = 0;
        change.close();
        broken = !masterIsRight() || !tableIsRight();
        if (!broken) {
            int[] master = sectors[MASTER];
            int sector = master[TABLE_AT];
            System.arraycopy(sectors[sector], 0, latestTable.where, 0, PAGES);
            latestTable.sector = sector;
            latestTable.generation = master[0] << 24 | master[1] << 16 | master[2] << 8 | master[3];
            sureTable.become(latestTable);
        }
    }

    private boolean masterIsRight() {
        int[] master = sectors[MASTER];
        for (int i = TABLE_AT + 1; i < CHECK_AT; i++) {
            if (master[i] != 0) {
                return false;
            }
        }
        return (master[CHECK_AT] << 8 | master[CHECK_AT + 1]) == checkOf(master);
    }

    private boolean tableIsRight() {
        int own = sectors[MASTER][TABLE_AT];
        if (own < 1 || own >= SECTORS) {
            return false;
        }
        long taken = 1L << own;
        for (int p = 0; p < PAGES; p++) {
            int sector = sectors[own][p];
            if (sector >= SECTORS || sector != 0 && holds(taken, sector)) {
                return false;
            }
            taken |= 1L << sector;
        }
        return true;
    }

    private static int checkOf(int[] master) {
        int check = 1;
        for (int i = 0; i < CHECK_AT; i++) {
            check = (check * 31 + master[i]) & 0xFFFF;
        }
        return check;
    }

    private static void putMaster(int[] master, int generation, int tableSector) {
        Arrays.fill(master, 0);
        for (int i = 0; i < TABLE_AT; i++) {
            master[i] = (generation >>> (24 - 8 * i)) & GREATEST_BYTE;
        }
        master[TABLE_AT] = tableSector;
        int check = checkOf(master);
        master[CHECK_AT] = check >>> 8;
        master[CHECK_AT + 1] = check & GREATEST_BYTE;
    }

    /** The FREE sectors, bit s for sector s. */
    private long freeSet() {
        long used = 1L << MASTER | latestTable.usedSet() | sureTable.usedSet();
        for (int p = 0; p < PAGES; p++) {
            used |= 1L << change.own[p];
        }
        return ~used & ((1L << SECTORS) - 1L);
    }

    private static boolean holds(long set, int sector) {
        return ((set >>> sector) & 1L) != 0L;
    }

    private int leastFree() {
        long set = freeSet();
        for (int s = 0; s < SECTORS; s++) {
            if (holds(set, s)) {
                return s;
            }
        }
        return NONE;
    }

    private void changePage(int page) {
        if (!change.has(page)) {
            int sector = leastFree();
            if (sector == NONE) {
                throw new IllegalStateException("no sector is free for the page");
            }
            copyLatestPage(page, change.bytes[page]);
            change.add(page, sector);
        }
        change.spilled[page] = false;
    }

    private void copyLatestPage(int page, int[] bytes) {
        int sector = latestTable.where[page];
        if (sector == 0) {
            Arrays.fill(bytes, 0);
        } else {
            System.arraycopy(sectors[sector], 0, bytes, 0, BYTES);
        }
    }

    private int openPlace(int page) {
        return change.has(page) ? change.own[page] : latestTable.where[page];
    }

    private void holdBackPage(int page) {
        row.add(change.own[page], change.bytes[page]);
        change.spilled[page] = true;
    }

    private void holdBackUnspilledPages() {
        for (int p = 0; p < PAGES; p++) {
            if (change.has(p) && !change.spilled[p]) {
                holdBackPage(p);
            }
        }
    }

    private void holdBackTable(int tableSector) {
        for (int p = 0; p < PAGES; p++) {
            draft[p] = openPlace(p);
        }
        row.add(tableSector, draft);
    }

    private void turnOver(int tableSector) {
        for (int p = 0; p < PAGES; p++) {
            latestTable.where[p] = openPlace(p);
        }
        latestTable.sector = tableSector;
        latestTable.generation++;
        change.close();
        putMaster(draft, latestTable.generation, tableSector);
        row.add(MASTER, draft);
    }

    private int carryOutAll() {
        int count = row.size;
        for (int k = 0; k < count; k++) {
            row.carryOut(k, sectors);
            // A commit flushes before it holds back its master: the one in the row is the latest commit's.
            if (row.target[k] == MASTER) {
                sureTable.become(latestTable);
            }
        }
        row.size = 0;
        return count;
    }

    /** A table as the store knows it, whatever its sector on the disk has become since. */
    private static final class Table {
        final int[] where = new int[PAGES];
        int sector;
        int generation;

        void become(Table other) {
            System.arraycopy(other.where, 0, where, 0, PAGES);
            sector = other.sector;
            generation = other.generation;
        }

        long usedSet() {
            long used = 1L << sector;
            for (int p = 0; p < PAGES; p++) {
                used |= 1L << where[p];
            }
            return used;
        }
    }

    /** The open change; as every change begins with a page, it is open as long as it has one. */
    private static final class Change {
        /** 0 for a page that is not changed: no page is ever given the master's sector. */
        final int[] own = new int[PAGES];
        final int[][] bytes = new int[PAGES][BYTES];
        final boolean[] spilled = new boolean[PAGES];
        int count;

        boolean isOpen() {
            return count > 0;
        }

        boolean has(int page) {
            return own[page] != 0;
        }

        void add(int page, int sector) {
            own[page] = sector;
            count++;
        }

        void close() {
            Arrays.fill(own, 0);
            count = 0;
        }
    }

    /** The writes that are held back; its arrays are made once, as all calls of a run share one room. */
    private static final class Row {
        final int[] target = new int[ROW_ROOM];
        final int[][] bytes = new int[ROW_ROOM][BYTES];
        int size;

        void add(int sector, int[] content) {
            target[size] = sector;
            System.arraycopy(content, 0, bytes[size], 0, BYTES);
            size++;
        }

        void carryOut(int k, int[][] sectors) {
            System.arraycopy(bytes[k], 0, sectors[target[k]], 0, BYTES);
        }
    }
}
