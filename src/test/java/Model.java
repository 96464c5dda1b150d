import java.util.ArrayList;
import java.util.HashSet;
import java.util.List;
import java.util.Map;
import java.util.Set;
import java.util.TreeMap;

/** The document's words again, in another shape: sets, maps and new arrays wherever they are plainest. */
final class Model {
    /** What a commit leaves: never changed once it is made. */
    private record Known(int[] table, int sector, int generation) {
    }

    private record Held(int sector, int[] bytes) {
    }

    private final int[][] disk = new int[48][16];
    private final List<Held> row = new ArrayList<>();
    private Known latest;
    private Known sure;
    private boolean broken;
    /** Null without an open change. */
    private TreeMap<Integer, Integer> sectors;
    private final Map<Integer, int[]> pages = new TreeMap<>();
    private final Set<Integer> spilled = new HashSet<>();

    Model() {
        format();
    }

    private static void argument(boolean fits) {
        if (!fits) {
            throw new IllegalArgumentException();
        }
    }

    private static void state(boolean fits) {
        if (!fits) {
            throw new IllegalStateException();
        }
    }

    private static boolean in(int n, int least, int most) {
        return least <= n && n <= most;
    }

    int format() {
        for (int s = 0; s < 48; s++) {
            disk[s] = new int[16];
        }
        disk[0] = Stores.master(0, 0, 0, 0, 1);
        row.clear();
        mount();
        return 0;
    }

    private void mount() {
        end();
        row.clear();
        latest = found();
        sure = latest;
        broken = latest == null;
    }

    private Known found() {
        int[] head = new int[5];
        System.arraycopy(disk[0], 0, head, 0, 5);
        int[] due = Stores.master(head);
        for (int i = 0; i < 16; i++) {
            if (disk[0][i] != due[i]) {
                return null;
            }
        }
        int own = disk[0][4];
        if (!in(own, 1, 47)) {
            return null;
        }
        Set<Integer> told = new HashSet<>();
        for (int s : disk[own]) {
            if (s > 47 || s == own || s != 0 && !told.add(s)) {
                return null;
            }
        }
        long generation = ((head[0] * 256L + head[1]) * 256L + head[2]) * 256L + head[3];
        return new Known(disk[own].clone(), own, (int) generation);
    }

    private void end() {
        sectors = null;
        pages.clear();
        spilled.clear();
    }

    private List<Integer> frees() {
        Set<Integer> used = new HashSet<>();
        used.add(0);
        for (Known known : new Known[] {latest, sure}) {
            used.add(known.sector);
            for (int s : known.table) {
                used.add(s);
            }
        }
        if (sectors != null) {
            used.addAll(sectors.values());
        }
        List<Integer> free = new ArrayList<>();
        for (int s = 0; s < 48; s++) {
            if (!used.contains(s)) {
                free.add(s);
            }
        }
        return free;
    }

    private int[] latestPage(int page) {
        int s = latest.table[page];
        return s == 0 ? new int[16] : disk[s].clone();
    }

    private int[] changing(int page) {
        state(!broken);
        if (!pages.containsKey(page)) {
            List<Integer> free = frees();
            state(!free.isEmpty());
            if (sectors == null) {
                sectors = new TreeMap<>();
            }
            sectors.put(page, free.get(0));
            pages.put(page, latestPage(page));
        }
        spilled.remove(page);
        return pages.get(page);
    }

    int write(int page, int i, int b) {
        argument(in(page, 0, 15) && in(i, 0, 15) && in(b, 0, 255));
        int[] bytes = changing(page);
        int was = bytes[i];
        bytes[i] = b;
        return was;
    }

    int fill(int page, long w, long v) {
        argument(in(page, 0, 15));
        int[] bytes = changing(page);
        for (int i = 0; i < 16; i++) {
            bytes[i] = (int) Math.floorMod(i < 8 ? w : v, 256L);
            if (i < 8) {
                w >>= 8;
            } else {
                v >>= 8;
            }
        }
        return sectors.size();
    }

    int read(int page, int i, boolean byLatest) {
        argument(in(page, 0, 15) && in(i, 0, 15));
        state(!broken);
        return byLatest || !pages.containsKey(page) ? latestPage(page)[i] : pages.get(page)[i];
    }

    int spill(int page) {
        argument(in(page, 0, 15) && pages.containsKey(page) && !spilled.contains(page));
        state(row.size() < 60);
        row.add(new Held(sectors.get(page), pages.get(page).clone()));
        spilled.add(page);
        return row.size();
    }

    int commit(boolean toBeSure) {
        state(!broken && sectors != null && !frees().isEmpty());
        for (int page : sectors.keySet()) {
            if (!spilled.contains(page)) {
                row.add(new Held(sectors.get(page), pages.get(page).clone()));
            }
        }
        int[] table = latest.table.clone();
        sectors.forEach((page, sector) -> table[page] = sector);
        int own = frees().get(0);
        row.add(new Held(own, table));
        flush();
        latest = new Known(table.clone(), own, latest.generation + 1);
        int g = latest.generation;
        row.add(new Held(0, Stores.master(g >>> 24, g >> 16 & 255, g >> 8 & 255, g & 255, own)));
        end();
        if (toBeSure) {
            flush();
        }
        return g;
    }

    int abort() {
        state(!broken && sectors != null);
        int changed = sectors.size();
        end();
        return changed;
    }

    int flush() {
        state(!broken);
        int count = row.size();
        for (Held held : row) {
            disk[held.sector] = held.bytes.clone();
            sure = held.sector == 0 ? latest : sure;
        }
        row.clear();
        return count;
    }

    int fail(long done) {
        for (Held held : row) {
            if (done % 2 != 0) {
                disk[held.sector] = held.bytes.clone();
            }
            done >>= 1;
        }
        mount();
        return broken ? 0 : 1;
    }

    int damage(int sector, int i, int b) {
        int was = disk(sector, i);
        argument(in(b, 0, 255));
        disk[sector][i] = b;
        return was;
    }

    int disk(int sector, int i) {
        argument(in(sector, 0, 47) && in(i, 0, 15));
        return disk[sector][i];
    }

    int place(int page, int which) {
        argument(in(page, 0, 15) && in(which, 0, 2));
        state(!broken);
        if (which == 2 && pages.containsKey(page)) {
            return sectors.get(page);
        }
        return (which == 1 ? sure : latest).table[page];
    }

    int free(int sector) {
        argument(in(sector, 0, 47));
        state(!broken);
        return frees().contains(sector) ? 1 : 0;
    }

    int held(int k, int i) {
        argument(in(k, 0, row.size() - 1) && in(i, -1, 15));
        return i == -1 ? row.get(k).sector : row.get(k).bytes[i];
    }

    int total(int what) {
        argument(in(what, 0, 7));
        if (broken) {
            return what == 0 ? row.size() : what == 7 ? 1 : -1;
        }
        int[] all = {row.size(), sectors == null ? -1 : sectors.size(), frees().size(), latest.generation,
            latest.sector, sure.generation, sure.sector, 0};
        return all[what];
    }
}
