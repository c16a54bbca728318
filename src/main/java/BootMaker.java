import java.util.Arrays;
import java.util.NoSuchElementException;

/** A maker of disks that boot, and the firmware that boots them. Offsets written as numbers are those of the document. */
public final class BootMaker {
    public static final int NONE = -1, WRONG = -2, FULL = -3, NAMED = -4;

    private static final int LEAST_SECTORS = 100, MOST_SECTORS = 600, USUAL_SECTORS = 200;
    private static final int SECTOR = 512;
    private static final int BOOT_SORT = 0, DATA_SORT = 1;
    private static final int MOST_FILES = 12, MOST_FILE_BYTES = 9000, HEAD_BYTES = 8;
    // Names are packed as file() takes them, the first character highest.
    private static final long KERNEL_NAME = 0x4B45524E454CL, LOADER_NAME = 0x4C4F41444552L;
    private static final String KERNEL_MARK = "KRNL", LOADER_MARK = "LOAD", KERNEL_ENTRY = "KERNEL     ";
    private static final int MOST_RUNS = 20, RUNS_AT = 64, RUN_BYTES = 6;
    private static final int PROTECTIVE_SORT_AT = 450, PROTECTIVE_SORT = 238;
    private static final int HEADER_SECTOR = 1, HEADER_BYTES = 92, HEADER_SUM_AT = 16;
    private static final int ENTRIES = 128, ENTRY_BYTES = 128, ENTRY_SECTORS = 32;
    private static final int FIRST_USABLE = 34, BEHIND_LAST_USABLE = 33;
    private static final int DIRECTORY_ENTRIES = 32, DIRECTORY_ENTRY_BYTES = 32, DIRECTORY_SECTORS = 2;
    private static final int FILE_ATTRIBUTE = 32, FIRST_CLUSTER = 2;
    private static final int TABLE_START = 4088, LAST_OF_CHAIN = 4095, LEAST_END_OF_CHAIN = 4088;
    private static final int MEMORY_BYTES = 65536;
    private static final int BY_TABLE = 0, BY_LOADER = 1;

    private static final int[] BOOT_BYTES = {40, 115, 42, 193, 31, 248, 210, 17, 186, 75, 0, 160, 201, 62, 201, 59};
    private static final int[] DATA_BYTES = {162, 160, 208, 235, 229, 185, 51, 68, 135, 192, 104, 182, 183, 38, 153, 199};
    private static final int[] HEADER_MARK = {69, 70, 73, 32, 80, 65, 82, 84};
    private static final int[] PROTECTIVE_ENTRY = {0, 0, 2, 0, 238, 255, 255, 255};

    private final Store disk;
    private final Sums sums;
    private final Plan plan;
    private final Writer writer;
    private final Firmware firmware;

    public BootMaker(int n) {
        int sectors = n >= LEAST_SECTORS && n <= MOST_SECTORS ? n : USUAL_SECTORS;
        disk = new Store(sectors * SECTOR);
        sums = new Sums();
        plan = new Plan(sectors);
        writer = new Writer(disk, sectors, plan, sums);
        firmware = new Firmware(disk, sectors, sums);
    }

    public int partition(int sort, int sectors) {
        return plan.addPartition(sort, sectors);
    }

    public int where(int partition, int what) {
        return plan.tellPartition(partition, what);
    }

    public int file(long name, int size, int seed, boolean scattered) {
        return plan.addFile(name, size, seed, scattered);
    }

    public boolean address(int at) {
        if (at < 0) {
            return false;
        }
        plan.kernelAddress = at;
        return true;
    }

    public int write() {
        return writer.writeDisk();
    }

    public int byteAt(int address) {
        return disk.has(address) ? disk.get(address) : NONE;
    }

    public int poke(int address, int value) {
        if (!disk.has(address)) {
            return NONE;
        }
        int before = disk.get(address);
        disk.put(address, value);
        return before;
    }

    public int sum(int address, int n) {
        // In long, for an address and a length near the greatest int would wrap round.
        boolean inside = address >= 0 && n >= 0 && (long) address + n <= disk.length;
        return inside ? sums.over(disk, address, n) : 0;
    }

    public int boot(int mode) throws IllegalArgumentException {
        if (mode != BY_TABLE && mode != BY_LOADER) {
            throw new IllegalArgumentException("no such mode");
        }
        return firmware.start(mode);
    }

    public int booted(int what) {
        return firmware.tell(what);
    }

    public int memory(int address) throws NoSuchElementException {
        if (address < 0 || address >= MEMORY_BYTES) {
            throw new NoSuchElementException("no such address");
        }
        return firmware.ram.get(address);
    }

    /** Bytes, eight in a word: a byte array would take eight times the elements of the room. */
    private static final class Store {
        final int length;
        private final long[] words;

        Store(int length) {
            this.length = length;
            words = new long[(length + 7) / 8];
        }

        boolean has(int at) {
            return at >= 0 && at < length;
        }

        int get(int at) {
            return at >= 0 && at < length ? (int) (words[at >> 3] >>> ((at & 7) << 3)) & 255 : 0;
        }

        void put(int at, int value) {
            if (at >= 0 && at < length) {
                int shift = (at & 7) << 3;
                words[at >> 3] = words[at >> 3] & ~(255L << shift) | (value & 255L) << shift;
            }
        }

        void clear() {
            Arrays.fill(words, 0L);
        }

        long getLow(int at, int bytes) {
            long value = 0;
            for (int i = bytes - 1; i >= 0; i--) {
                value = value << 8 | get(at + i);
            }
            return value;
        }

        void putLow(int at, int bytes, long value) {
            for (int i = 0; i < bytes; i++) {
                put(at + i, (int) (value >>> 8 * i));
            }
        }

        void putRow(int at, int[] row) {
            for (int i = 0; i < row.length; i++) {
                put(at + i, row[i]);
            }
        }

        boolean holdsRow(int at, int[] row) {
            for (int i = 0; i < row.length; i++) {
                if (get(at + i) != row[i]) {
                    return false;
                }
            }
            return true;
        }

        void putText(int at, String text) {
            for (int i = 0; i < text.length(); i++) {
                put(at + i, text.charAt(i));
            }
        }

        boolean holdsText(int at, String text) {
            for (int i = 0; i < text.length(); i++) {
                if (get(at + i) != text.charAt(i)) {
                    return false;
                }
            }
            return true;
        }

        void markBootSector(int sector) {
            putLow(sector * SECTOR + 510, 2, 85 + 256 * 170);
        }

        boolean isBootSector(int sector) {
            return getLow(sector * SECTOR + 510, 2) == 85 + 256 * 170;
        }
    }

    /** The sum of bytes. What eight shifts do to each byte is worked out once: booting sums 16384 bytes and more. */
    private static final class Sums {
        private final int[] shifted = new int[256];
        private int bits;

        Sums() {
            for (int value = 0; value < 256; value++) {
                int left = value;
                for (int i = 0; i < 8; i++) {
                    left = (left & 1) == 1 ? left >>> 1 ^ 0xEDB88320 : left >>> 1;
                }
                shifted[value] = left;
            }
        }

        void begin() {
            bits = -1;
        }

        void add(int value) {
            bits = shifted[(bits ^ value) & 255] ^ bits >>> 8;
        }

        int result() {
            return ~bits;
        }

        int over(Store store, int at, int count) {
            begin();
            for (int i = 0; i < count; i++) {
                add(store.get(at + i));
            }
            return result();
        }

        int overHeader(Store store, int at) {
            begin();
            for (int i = 0; i < HEADER_BYTES; i++) {
                boolean isSum = i >= HEADER_SUM_AT && i < HEADER_SUM_AT + 4;
                add(isSum ? 0 : store.get(at + i));
            }
            return result();
        }
    }

    /** The partitions and files that the next writing puts on the disk. */
    private static final class Plan {
        static final int MOST_PARTITIONS = 4, FIRST_START = 40, LEAST_LENGTH = 8, MOST_LENGTH = 600;

        final int lastUsable;
        final int[] sorts = new int[MOST_PARTITIONS];
        final int[] starts = new int[MOST_PARTITIONS];
        final int[] lengths = new int[MOST_PARTITIONS];
        int partitions;
        final long[] names = new long[MOST_FILES];
        final int[] sizes = new int[MOST_FILES];
        final int[] seeds = new int[MOST_FILES];
        final boolean[] scattered = new boolean[MOST_FILES];
        int files;
        int kernelAddress;

        Plan(int sectors) {
            lastUsable = sectors - BEHIND_LAST_USABLE - 1;
        }

        int addPartition(int sort, int length) {
            if (sort != BOOT_SORT && sort != DATA_SORT || length < LEAST_LENGTH || length > MOST_LENGTH) {
                return WRONG;
            }
            if (partitions >= MOST_PARTITIONS) {
                return FULL;
            }
            int start = nextStart();
            if (start + length - 1 > lastUsable) {
                return FULL;
            }
            sorts[partitions] = sort;
            starts[partitions] = start;
            lengths[partitions] = length;
            return partitions++;
        }

        private int nextStart() {
            if (partitions == 0) {
                return FIRST_START;
            }
            int behind = starts[partitions - 1] + lengths[partitions - 1];
            return (behind + 7) / 8 * 8;
        }

        int tellPartition(int number, int what) {
            if (number < 0 || number >= partitions) {
                return NONE;
            }
            switch (what) {
                case 0: return starts[number];
                case 1: return lengths[number];
                case 2: return sorts[number];
                default: return NONE;
            }
        }

        int bootPartition() {
            for (int i = 0; i < partitions; i++) {
                if (sorts[i] == BOOT_SORT) {
                    return i;
                }
            }
            return NONE;
        }

        int addFile(long word, int size, int seed, boolean scatter) {
            long name = nameIn(word);
            if (name == 0 || size < 0 || size > MOST_FILE_BYTES || seed < 0 || seed > 255) {
                return WRONG;
            }
            if (fileNamed(name) != NONE) {
                return NAMED;
            }
            if (files >= MOST_FILES) {
                return FULL;
            }
            names[files] = name;
            sizes[files] = size;
            seeds[files] = seed;
            scattered[files] = scatter;
            return files++;
        }

        /** The name without the word's zero bytes, so that equal names are equal numbers; 0 if it is none. */
        private static long nameIn(long word) {
            long name = 0;
            for (int shift = 56; shift >= 0; shift -= 8) {
                int character = (int) (word >>> shift) & 255;
                if (character != 0) {
                    if (!isNameCharacter(character)) {
                        return 0;
                    }
                    name = name << 8 | character;
                }
            }
            return name;
        }

        private static boolean isNameCharacter(int c) {
            return c >= 'A' && c <= 'Z' || c >= '0' && c <= '9' || c == '_';
        }

        int fileNamed(long name) {
            for (int i = 0; i < files; i++) {
                if (names[i] == name) {
                    return i;
                }
            }
            return NONE;
        }

        int fileByte(int number, int i, int bootStart) {
            if (i < HEAD_BYTES && sizes[number] >= HEAD_BYTES) {
                if (names[number] == KERNEL_NAME) {
                    return headByte(KERNEL_MARK, kernelAddress, i);
                }
                if (names[number] == LOADER_NAME) {
                    return headByte(LOADER_MARK, bootStart, i);
                }
            }
            return (seeds[number] + 7 * i + i / 200) & 255;
        }

        private static int headByte(String mark, int number, int i) {
            return i >= 0 && i < mark.length() ? mark.charAt(i) : number >>> 8 * (i - 4) & 255;
        }
    }

    /** The file system of the boot partition before it is on the disk: a writing that is refused changes nothing there. */
    private static final class Volume {
        int start;
        int length;
        int tableSectors;
        int clusters;
        final int[] next;
        final int[] firstClusters = new int[MOST_FILES];
        final int[] runStarts = new int[MOST_RUNS];
        final int[] runLengths = new int[MOST_RUNS];
        int runs;

        Volume(int sectors) {
            next = new int[sectors];
        }

        static int tableBytes(int clusters) {
            return ((clusters + 2) * 3 + 1) / 2;
        }

        static int clustersIn(int length, int tableSectors) {
            return length - 1 - DIRECTORY_SECTORS - 2 * tableSectors;
        }

        void forget() {
            clusters = 0;
            runs = 0;
        }

        void lieIn(int firstSector, int sectors) {
            start = firstSector;
            length = sectors;
            tableSectors = 1;
            while (tableSectors < length && tableBytes(clustersIn(length, tableSectors)) > SECTOR * tableSectors) {
                tableSectors++;
            }
            clusters = clustersIn(length, tableSectors);
        }

        boolean isPossible() {
            return clusters >= 1 && clusters + FIRST_CLUSTER <= next.length;
        }

        boolean placeFiles(Plan plan) {
            int needed = 0;
            for (int i = 0; i < plan.files; i++) {
                needed += clustersFor(plan.sizes[i]);
            }
            if (needed > clusters) {
                return false;
            }
            Arrays.fill(next, 0);
            next[0] = TABLE_START;
            next[1] = LAST_OF_CHAIN;
            for (int i = 0; i < plan.files; i++) {
                placeFile(i, clustersFor(plan.sizes[i]), plan.scattered[i]);
            }
            return true;
        }

        static int clustersFor(int size) {
            return (size + SECTOR - 1) / SECTOR;
        }

        private void placeFile(int number, int needed, boolean scattered) {
            boolean jumping = scattered;
            int last = 0;
            firstClusters[number] = 0;
            for (int i = 0; i < needed; i++) {
                int cluster = lowestFree(jumping && i > 0 ? last + 2 : FIRST_CLUSTER);
                if (cluster == NONE) {
                    jumping = false;
                    cluster = lowestFree(FIRST_CLUSTER);
                }
                if (cluster == NONE) {
                    return;
                }
                if (i == 0) {
                    firstClusters[number] = cluster;
                } else {
                    next[last] = cluster;
                }
                next[cluster] = LAST_OF_CHAIN;
                last = cluster;
            }
        }

        private int lowestFree(int from) {
            for (int cluster = from; cluster < clusters + FIRST_CLUSTER; cluster++) {
                if (next[cluster] == 0) {
                    return cluster;
                }
            }
            return NONE;
        }

        int sectorOf(int cluster) {
            return directorySector() + DIRECTORY_SECTORS + cluster - FIRST_CLUSTER;
        }

        int directorySector() {
            return start + 1 + 2 * tableSectors;
        }

        /** False when the file has more runs than sector 0 may tell. */
        boolean findRuns(int number, int size) {
            int cluster = firstClusters[number];
            int needed = clustersFor(size);
            for (int i = 0; i < needed; i++) {
                int sector = sectorOf(cluster);
                if (runs > 0 && runStarts[runs - 1] + runLengths[runs - 1] == sector) {
                    runLengths[runs - 1]++;
                } else if (runs >= MOST_RUNS) {
                    return false;
                } else {
                    runStarts[runs] = sector;
                    runLengths[runs] = 1;
                    runs++;
                }
                cluster = follower(cluster);
            }
            return true;
        }

        int follower(int cluster) {
            return cluster >= 0 && cluster < next.length ? next[cluster] : 0;
        }
    }

    /** Writes the plan on the disk. */
    private static final class Writer {
        private static final int DONE = 0, NO_BOOT_PARTITION = 1, NO_ROOM = 2, TOO_MANY_RUNS = 3;

        private final Store disk;
        private final int sectors;
        private final Plan plan;
        private final Sums sums;
        private final Volume volume;

        Writer(Store disk, int sectors, Plan plan, Sums sums) {
            this.disk = disk;
            this.sectors = sectors;
            this.plan = plan;
            this.sums = sums;
            volume = new Volume(sectors);
        }

        int writeDisk() {
            int refusal = layOut();
            if (refusal != DONE) {
                return refusal;
            }
            disk.clear();
            writeSectorZero();
            writeTable(2, HEADER_SECTOR, sectors - 1);
            writeTable(sectors - BEHIND_LAST_USABLE, sectors - 1, HEADER_SECTOR);
            if (volume.isPossible()) {
                writeVolumeSector();
                writeClusterTables();
                for (int i = 0; i < plan.files; i++) {
                    writeFile(i);
                }
            }
            return DONE;
        }

        private int layOut() {
            volume.forget();
            int boot = plan.bootPartition();
            if (boot == NONE) {
                return plan.files > 0 ? NO_BOOT_PARTITION : DONE;
            }
            volume.lieIn(plan.starts[boot], plan.lengths[boot]);
            if (!volume.isPossible()) {
                return plan.files > 0 ? NO_ROOM : DONE;
            }
            if (!volume.placeFiles(plan)) {
                return NO_ROOM;
            }
            int loader = plan.fileNamed(LOADER_NAME);
            if (loader != NONE && !volume.findRuns(loader, plan.sizes[loader])) {
                return TOO_MANY_RUNS;
            }
            return DONE;
        }

        private void writeSectorZero() {
            disk.put(0, 235);
            disk.put(1, 62);
            int loader = plan.fileNamed(LOADER_NAME);
            if (loader != NONE && volume.runs > 0) {
                writeRuns(loader);
            }
            disk.putRow(446, PROTECTIVE_ENTRY);
            disk.putLow(454, 4, 1);
            disk.putLow(458, 4, sectors - 1);
            disk.markBootSector(0);
        }

        private void writeRuns(int loader) {
            disk.put(RUNS_AT, volume.runs);
            int at = RUNS_AT + 1;
            for (int i = 0; i < volume.runs; i++) {
                disk.putLow(at, 4, volume.runStarts[i]);
                disk.putLow(at + 4, 2, volume.runLengths[i]);
                at += RUN_BYTES;
            }
            disk.putLow(at, 4, plan.sizes[loader]);
            disk.putLow(at + 4, 4, fileSum(loader));
        }

        private int fileSum(int number) {
            sums.begin();
            for (int i = 0; i < plan.sizes[number]; i++) {
                sums.add(plan.fileByte(number, i, volume.start));
            }
            return sums.result();
        }

        private void writeTable(int entriesSector, int ownSector, int otherSector) {
            for (int k = 0; k < plan.partitions; k++) {
                writeEntry(entriesSector * SECTOR + k * ENTRY_BYTES, k);
            }
            int at = ownSector * SECTOR;
            disk.putRow(at, HEADER_MARK);
            disk.put(at + 10, 1);
            disk.putLow(at + 12, 4, HEADER_BYTES);
            disk.putLow(at + 24, 8, ownSector);
            disk.putLow(at + 32, 8, otherSector);
            disk.putLow(at + 40, 8, FIRST_USABLE);
            disk.putLow(at + 48, 8, plan.lastUsable);
            for (int i = 0; i < 16; i++) {
                disk.put(at + 56 + i, 17 * i + 1);
            }
            disk.putLow(at + 72, 8, entriesSector);
            disk.putLow(at + 80, 4, ENTRIES);
            disk.putLow(at + 84, 4, ENTRY_BYTES);
            disk.putLow(at + 88, 4, sums.over(disk, entriesSector * SECTOR, ENTRIES * ENTRY_BYTES));
            disk.putLow(at + HEADER_SUM_AT, 4, sums.overHeader(disk, at));
        }

        private void writeEntry(int at, int k) {
            boolean isBoot = plan.sorts[k] == BOOT_SORT;
            disk.putRow(at, isBoot ? BOOT_BYTES : DATA_BYTES);
            for (int i = 0; i < 16; i++) {
                disk.put(at + 16 + i, 32 * (k + 1) + i);
            }
            disk.putLow(at + 32, 8, plan.starts[k]);
            disk.putLow(at + 40, 8, plan.starts[k] + plan.lengths[k] - 1);
            String name = isBoot ? "boot" : "data";
            for (int i = 0; i < name.length(); i++) {
                disk.put(at + 56 + 2 * i, name.charAt(i));
            }
            disk.put(at + 56 + 2 * name.length(), '0' + k);
        }

        private void writeVolumeSector() {
            int at = volume.start * SECTOR;
            disk.put(at, 235);
            disk.put(at + 1, 60);
            disk.put(at + 2, 144);
            disk.putText(at + 3, "MAKER   ");
            disk.putLow(at + 11, 2, SECTOR);
            disk.put(at + 13, 1);
            disk.putLow(at + 14, 2, 1);
            disk.put(at + 16, 2);
            disk.putLow(at + 17, 2, DIRECTORY_ENTRIES);
            disk.putLow(at + 19, 2, volume.length);
            disk.put(at + 21, 248);
            disk.putLow(at + 22, 2, volume.tableSectors);
            disk.putLow(at + 24, 2, 32);
            disk.putLow(at + 26, 2, 2);
            disk.putLow(at + 28, 4, volume.start);
            disk.put(at + 36, 128);
            disk.put(at + 38, 41);
            disk.putLow(at + 39, 4, volume.start);
            disk.putText(at + 43, "BOOT       ");
            disk.putText(at + 54, "FAT12   ");
            disk.markBootSector(volume.start);
        }

        private void writeClusterTables() {
            int first = (volume.start + 1) * SECTOR;
            int second = first + volume.tableSectors * SECTOR;
            for (int entry = 0; entry < volume.clusters + FIRST_CLUSTER; entry++) {
                writeClusterEntry(first, entry);
                writeClusterEntry(second, entry);
            }
        }

        private void writeClusterEntry(int table, int entry) {
            int at = table + entry * 3 / 2;
            int value = volume.follower(entry);
            if (entry % 2 == 0) {
                disk.putLow(at, 2, value);
            } else {
                // The even entry before it has been written already, and has half of this byte.
                disk.putLow(at, 2, disk.get(at) | value << 4);
            }
        }

        private void writeFile(int number) {
            int size = plan.sizes[number];
            writeDirectoryEntry(volume.directorySector() * SECTOR + number * DIRECTORY_ENTRY_BYTES, number);
            int cluster = volume.firstClusters[number];
            int at = 0;
            for (int i = 0; i < size; i++) {
                if (i % SECTOR == 0) {
                    at = volume.sectorOf(cluster) * SECTOR;
                    cluster = volume.follower(cluster);
                }
                disk.put(at + i % SECTOR, plan.fileByte(number, i, volume.start));
            }
        }

        private void writeDirectoryEntry(int at, int number) {
            disk.putText(at, "           ");
            int characters = 0;
            for (int shift = 56; shift >= 0; shift -= 8) {
                int character = (int) (plan.names[number] >>> shift) & 255;
                if (character != 0) {
                    disk.put(at + characters, character);
                    characters++;
                }
            }
            disk.put(at + 11, FILE_ATTRIBUTE);
            disk.putLow(at + 24, 2, 33);
            disk.putLow(at + 26, 2, volume.firstClusters[number]);
            disk.putLow(at + 28, 4, plan.sizes[number]);
        }
    }

    /** Boots from what the disk holds, whoever wrote it; it knows nothing of the plan. */
    private static final class Firmware {
        private static final int NO_BOOT_MARK = 1, NOT_PROTECTIVE = 2, NO_GOOD_HEADER = 3, NO_BOOT_ENTRY = 4,
            NO_VOLUME = 5, NO_KERNEL = 6, BROKEN_CHAIN = 7, BAD_KERNEL = 8, BAD_LOADER = 9;
        private static final int MOST_LOADER_SECTORS = 18;

        final Store ram = new Store(MEMORY_BYTES);
        private final Store disk;
        private final int sectors;
        private final Sums sums;
        private final int[] loaderSectors = new int[MOST_LOADER_SECTORS];
        private final int[] chain;
        private int tableSectors;
        private int clusters;
        private boolean tried;
        private int header;
        private int bootStart = NONE;
        private int kernelAddress = NONE;
        private int kernelSize = NONE;

        Firmware(Store disk, int sectors, Sums sums) {
            this.disk = disk;
            this.sectors = sectors;
            this.sums = sums;
            chain = new int[sectors];
        }

        int tell(int what) {
            if (!tried) {
                return NONE;
            }
            switch (what) {
                case 0: return header;
                case 1: return bootStart;
                case 2: return kernelAddress;
                case 3: return kernelSize;
                default: return NONE;
            }
        }

        int start(int mode) {
            forget();
            if (!disk.isBootSector(0)) {
                return NO_BOOT_MARK;
            }
            int reason = mode == BY_TABLE ? searchTable() : searchLoader();
            return reason != 0 ? reason : loadKernel();
        }

        private void forget() {
            tried = true;
            header = 0;
            bootStart = NONE;
            kernelAddress = NONE;
            kernelSize = NONE;
            ram.clear();
        }

        private int searchTable() {
            if (disk.get(PROTECTIVE_SORT_AT) != PROTECTIVE_SORT) {
                return NOT_PROTECTIVE;
            }
            int sector = HEADER_SECTOR;
            if (isGoodHeader(sector)) {
                header = 1;
            } else {
                sector = sectors - 1;
                if (!isGoodHeader(sector)) {
                    return NO_GOOD_HEADER;
                }
                header = 2;
            }
            bootStart = bootStartIn((int) disk.getLow(sector * SECTOR + 72, 8) * SECTOR);
            return bootStart == NONE ? NO_BOOT_ENTRY : 0;
        }

        private boolean isGoodHeader(int sector) {
            int at = sector * SECTOR;
            return disk.holdsRow(at, HEADER_MARK)
                && disk.getLow(at + 12, 4) == HEADER_BYTES
                && disk.getLow(at + 24, 8) == sector
                && disk.getLow(at + 80, 4) == ENTRIES
                && disk.getLow(at + 84, 4) == ENTRY_BYTES
                && (int) disk.getLow(at + HEADER_SUM_AT, 4) == sums.overHeader(disk, at)
                && hasGoodEntries(at);
        }

        private boolean hasGoodEntries(int headerAt) {
            long first = disk.getLow(headerAt + 72, 8);
            if (first < 0 || first > sectors - ENTRY_SECTORS) {
                return false;
            }
            int due = (int) disk.getLow(headerAt + 88, 4);
            return due == sums.over(disk, (int) first * SECTOR, ENTRIES * ENTRY_BYTES);
        }

        private int bootStartIn(int entriesAt) {
            for (int k = 0; k < ENTRIES; k++) {
                int at = entriesAt + k * ENTRY_BYTES;
                if (disk.holdsRow(at, BOOT_BYTES)) {
                    long first = disk.getLow(at + 32, 8);
                    long last = disk.getLow(at + 40, 8);
                    // Eight bytes with the highest bit set read as below 0, and are far beyond any disk.
                    if (first >= 0 && first <= last && last < sectors) {
                        return (int) first;
                    }
                }
            }
            return NONE;
        }

        private int searchLoader() {
            int runs = disk.get(RUNS_AT);
            if (runs == 0 || runs > MOST_RUNS) {
                return BAD_LOADER;
            }
            int behindRuns = RUNS_AT + 1 + runs * RUN_BYTES;
            long size = disk.getLow(behindRuns, 4);
            if (size < HEAD_BYTES || size > MOST_FILE_BYTES || !collectRuns(runs, (int) size)) {
                return BAD_LOADER;
            }
            if (loaderSum((int) size) != (int) disk.getLow(behindRuns + 4, 4)) {
                return BAD_LOADER;
            }
            int at = loaderSectors[0] * SECTOR;
            long start = disk.getLow(at + 4, 4);
            if (!disk.holdsText(at, LOADER_MARK) || start >= sectors) {
                return BAD_LOADER;
            }
            bootStart = (int) start;
            return 0;
        }

        /** Lists the sectors that hold the loader's bytes; false if a run is wrong or they are too few. */
        private boolean collectRuns(int runs, int size) {
            int needed = Volume.clustersFor(size);
            int collected = 0;
            for (int k = 0; k < runs; k++) {
                int at = RUNS_AT + 1 + k * RUN_BYTES;
                long first = disk.getLow(at, 4);
                long count = disk.getLow(at + 4, 2);
                if (count == 0 || first + count > sectors) {
                    return false;
                }
                for (int i = 0; i < count && collected < needed && collected < loaderSectors.length; i++) {
                    loaderSectors[collected] = (int) first + i;
                    collected++;
                }
            }
            return collected == needed;
        }

        private int loaderSum(int size) {
            sums.begin();
            for (int i = 0; i < size && i / SECTOR < loaderSectors.length; i++) {
                sums.add(disk.get(loaderSectors[i / SECTOR] * SECTOR + i % SECTOR));
            }
            return sums.result();
        }

        private int loadKernel() {
            if (!readVolumeSector()) {
                return NO_VOLUME;
            }
            int entry = kernelEntry();
            if (entry == NONE) {
                return NO_KERNEL;
            }
            long size = disk.getLow(entry + 28, 4);
            if (!followChain((int) disk.getLow(entry + 26, 2), size)) {
                return BROKEN_CHAIN;
            }
            return copyKernel((int) size) ? 0 : BAD_KERNEL;
        }

        private boolean readVolumeSector() {
            int at = bootStart * SECTOR;
            int length = (int) disk.getLow(at + 19, 2);
            tableSectors = (int) disk.getLow(at + 22, 2);
            clusters = Volume.clustersIn(length, tableSectors);
            return disk.isBootSector(bootStart)
                && disk.getLow(at + 11, 2) == SECTOR
                && disk.get(at + 13) == 1
                && disk.getLow(at + 14, 2) == 1
                && disk.get(at + 16) == 2
                && disk.getLow(at + 17, 2) == DIRECTORY_ENTRIES
                && tableSectors > 0
                && clusters >= 1
                && Volume.tableBytes(clusters) <= SECTOR * tableSectors
                && bootStart + length <= sectors;
        }

        private int kernelEntry() {
            int directory = (bootStart + 1 + 2 * tableSectors) * SECTOR;
            for (int i = 0; i < DIRECTORY_ENTRIES; i++) {
                int at = directory + i * DIRECTORY_ENTRY_BYTES;
                if (disk.get(at) == 0) {
                    return NONE;
                }
                if (disk.holdsText(at, KERNEL_ENTRY) && disk.get(at + 11) == FILE_ATTRIBUTE) {
                    return at;
                }
            }
            return NONE;
        }

        private boolean followChain(int firstCluster, long size) {
            long needed = (size + SECTOR - 1) / SECTOR;
            if (needed > clusters || needed > chain.length) {
                return false;
            }
            int cluster = firstCluster;
            for (int i = 0; i < needed; i++) {
                if (cluster < FIRST_CLUSTER || cluster > clusters + 1) {
                    return false;
                }
                chain[i] = cluster;
                cluster = clusterEntry(cluster);
            }
            return needed == 0 || cluster >= LEAST_END_OF_CHAIN;
        }

        private int clusterEntry(int entry) {
            int at = (bootStart + 1) * SECTOR + entry * 3 / 2;
            int pair = (int) disk.getLow(at, 2);
            return entry % 2 == 0 ? pair & 0xFFF : pair >> 4;
        }

        private boolean copyKernel(int size) {
            if (size < HEAD_BYTES) {
                return false;
            }
            int head = clusterAt(chain[0]);
            long address = disk.getLow(head + 4, 4);
            if (!disk.holdsText(head, KERNEL_MARK) || address + size > MEMORY_BYTES) {
                return false;
            }
            for (int i = 0; i < size && i / SECTOR < chain.length; i++) {
                ram.put((int) address + i, disk.get(clusterAt(chain[i / SECTOR]) + i % SECTOR));
            }
            kernelAddress = (int) address;
            kernelSize = size;
            return true;
        }

        private int clusterAt(int cluster) {
            int firstSector = bootStart + 1 + 2 * tableSectors + DIRECTORY_SECTORS;
            return (firstSector + cluster - FIRST_CLUSTER) * SECTOR;
        }
    }
}
