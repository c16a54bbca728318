import java.io.ByteArrayOutputStream;
import java.nio.ByteBuffer;
import java.nio.ByteOrder;
import java.nio.charset.StandardCharsets;
import java.util.ArrayList;
import java.util.Arrays;
import java.util.List;
import java.util.TreeSet;
import java.util.zip.CRC32;

/** The document a second time, written with the Java library and without care for room, to compare with. */
final class Model {
    private static final String BOOT = "28732ac11ff8d211ba4b00a0c93ec93b", DATA = "a2a0d0ebe5b9334487c068b6b72699c7";

    record Part(int sort, int first, int sectors) {
        int last() {
            return first + sectors - 1;
        }
    }

    record Entry(String name, int size, int seed, boolean scattered) {
    }

    final int n;
    byte[] disk;
    final List<Part> parts = new ArrayList<>();
    final List<Entry> files = new ArrayList<>();
    int address = 0;
    byte[] memory = new byte[65536];
    int[] booted = {-1, -1, -1, -1};

    Model(int n) {
        this.n = n < 100 || n > 600 ? 200 : n;
        disk = new byte[this.n * 512];
    }

    int partition(int sort, int sectors) {
        if (sort < 0 || sort > 1 || sectors < 8 || sectors > 600) {
            return -2;
        }
        int first = 40;
        for (Part part : parts) {
            first = part.last() + 1;
            while (first % 8 != 0) {
                first++;
            }
        }
        Part part = new Part(sort, first, sectors);
        if (parts.size() == 4 || part.last() > n - 34) {
            return -3;
        }
        parts.add(part);
        return parts.size() - 1;
    }

    int where(int k, int what) {
        if (k < 0 || k >= parts.size() || what < 0 || what > 2) {
            return -1;
        }
        Part part = parts.get(k);
        return new int[] {part.first, part.sectors, part.sort}[what];
    }

    int file(long word, int size, int seed, boolean scattered) {
        byte[] bytes = ByteBuffer.allocate(8).putLong(word).array();
        String name = new String(bytes, StandardCharsets.ISO_8859_1).replace("\0", "");
        if (!name.matches("[A-Z0-9_]{1,8}") || size < 0 || size > 9000 || seed < 0 || seed > 255) {
            return -2;
        }
        if (files.stream().anyMatch(f -> f.name.equals(name))) {
            return -4;
        }
        if (files.size() == 12) {
            return -3;
        }
        files.add(new Entry(name, size, seed, scattered));
        return files.size() - 1;
    }

    boolean address(int at) {
        if (at >= 0) {
            address = at;
        }
        return at >= 0;
    }

    private static int crc(byte[] bytes) {
        CRC32 crc = new CRC32();
        crc.update(bytes);
        return (int) crc.getValue();
    }

    private static byte[] hex(String text) {
        byte[] bytes = new byte[text.length() / 2];
        for (int i = 0; i < bytes.length; i++) {
            bytes[i] = (byte) Integer.parseInt(text.substring(2 * i, 2 * i + 2), 16);
        }
        return bytes;
    }

    private byte[] content(Entry file, int b) {
        byte[] bytes = new byte[file.size];
        for (int i = 0; i < bytes.length; i++) {
            bytes[i] = (byte) ((file.seed + 7 * i + i / 200) % 256);
        }
        boolean kernel = file.name.equals("KERNEL");
        if (file.size >= 8 && (kernel || file.name.equals("LOADER"))) {
            ByteBuffer head = ByteBuffer.wrap(bytes).order(ByteOrder.LITTLE_ENDIAN);
            head.put((kernel ? "KRNL" : "LOAD").getBytes(StandardCharsets.ISO_8859_1)).putInt(kernel ? address : b);
        }
        return bytes;
    }

    private static int tables(int p) {
        int f = 0;
        while (Math.ceil((p - 3 - 2 * f + 2) * 1.5) > 512.0 * f) {
            f++;
        }
        return f;
    }

    private List<List<Integer>> allocate(int clusters) {
        TreeSet<Integer> free = new TreeSet<>();
        for (int i = 2; i < clusters + 2; i++) {
            free.add(i);
        }
        List<List<Integer>> chains = new ArrayList<>();
        for (Entry file : files) {
            List<Integer> chain = new ArrayList<>();
            boolean jump = file.scattered;
            for (int left = file.size; left > 0; left -= 512) {
                Integer next = null;
                if (jump && !chain.isEmpty()) {
                    next = free.ceiling(chain.get(chain.size() - 1) + 2);
                    jump = next != null;
                }
                if (next == null) {
                    next = free.isEmpty() ? null : free.first();
                }
                if (next == null) {
                    return null;
                }
                free.remove(next);
                chain.add(next);
            }
            chains.add(chain);
        }
        return chains;
    }

    int write() {
        Part boot = parts.stream().filter(p -> p.sort == 0).findFirst().orElse(null);
        if (boot == null && !files.isEmpty()) {
            return 1;
        }
        ByteBuffer out = ByteBuffer.allocate(n * 512).order(ByteOrder.LITTLE_ENDIAN);
        out.put(0, new byte[] {(byte) 235, 62});
        if (boot != null) {
            int f = tables(boot.sectors);
            int clusters = boot.sectors - 3 - 2 * f;
            List<List<Integer>> chains = allocate(clusters);
            if (chains == null) {
                return 2;
            }
            volume(out, boot, f, chains);
            for (int i = 0; i < files.size(); i++) {
                if (files.get(i).name.equals("LOADER") && files.get(i).size > 0) {
                    loader(out, boot, f, chains.get(i), content(files.get(i), boot.first));
                }
            }
        }
        out.put(446, new byte[] {0, 0, 2, 0, (byte) 238, -1, -1, -1}).putInt(454, 1).putInt(458, n - 1);
        out.put(510, new byte[] {85, (byte) 170});
        byte[] entries = entries();
        header(out, entries, 1, n - 1, 2);
        header(out, entries, n - 1, 1, n - 33);
        disk = out.array();
        return 0;
    }

    private void loader(ByteBuffer out, Part boot, int f, List<Integer> chain, byte[] content) {
        List<int[]> runs = new ArrayList<>();
        for (int cluster : chain) {
            int sector = boot.first + 3 + 2 * f + cluster - 2;
            int[] last = runs.isEmpty() ? new int[] {-9, 0} : runs.get(runs.size() - 1);
            if (last[0] + last[1] == sector) {
                last[1]++;
            } else {
                runs.add(new int[] {sector, 1});
            }
        }
        out.position(64);
        out.put((byte) runs.size());
        for (int[] run : runs) {
            out.putInt(run[0]).putShort((short) run[1]);
        }
        out.putInt(content.length).putInt(crc(content));
    }

    private byte[] entries() {
        ByteBuffer out = ByteBuffer.allocate(16384).order(ByteOrder.LITTLE_ENDIAN);
        for (int k = 0; k < parts.size(); k++) {
            Part part = parts.get(k);
            out.position(128 * k);
            out.put(hex(part.sort == 0 ? BOOT : DATA));
            for (int i = 0; i < 16; i++) {
                out.put((byte) (32 * (k + 1) + i));
            }
            out.putLong(part.first).putLong(part.last()).putLong(0);
            out.put(((part.sort == 0 ? "boot" : "data") + k).getBytes(StandardCharsets.UTF_16LE));
        }
        return out.array();
    }

    private void header(ByteBuffer out, byte[] entries, int own, int other, int at) {
        out.put(at * 512, entries);
        ByteBuffer head = ByteBuffer.allocate(92).order(ByteOrder.LITTLE_ENDIAN);
        head.put("EFI PART".getBytes(StandardCharsets.ISO_8859_1)).putInt(0x10000).putInt(92).putInt(0).putInt(0);
        head.putLong(own).putLong(other).putLong(34).putLong(n - 34);
        for (int i = 0; i < 16; i++) {
            head.put((byte) (17 * i + 1));
        }
        head.putLong(at).putInt(128).putInt(128).putInt(crc(entries));
        head.putInt(16, crc(head.array()));
        out.put(own * 512, head.array());
    }

    private void volume(ByteBuffer out, Part boot, int f, List<List<Integer>> chains) {
        int b = boot.first * 512;
        out.position(b);
        out.put((byte) 235).put((byte) 60).put((byte) 144).put("MAKER   ".getBytes(StandardCharsets.ISO_8859_1));
        out.putShort((short) 512).put((byte) 1).putShort((short) 1).put((byte) 2).putShort((short) 32);
        out.putShort((short) boot.sectors).put((byte) 248).putShort((short) f).putShort((short) 32).putShort((short) 2);
        out.putInt(boot.first).putInt(0).put((byte) 128).put((byte) 0).put((byte) 41).putInt(boot.first);
        out.put("BOOT       FAT12   ".getBytes(StandardCharsets.ISO_8859_1));
        out.put(b + 510, new byte[] {85, (byte) 170});
        int[] table = new int[f * 512 * 2 / 3];
        table[0] = 4088;
        table[1] = 4095;
        for (int k = 0; k < files.size(); k++) {
            Entry file = files.get(k);
            List<Integer> chain = chains.get(k);
            byte[] content = Arrays.copyOf(content(file, boot.first), chain.size() * 512);
            for (int i = 0; i < chain.size(); i++) {
                table[chain.get(i)] = i + 1 < chain.size() ? chain.get(i + 1) : 4095;
                out.put(b + (3 + 2 * f + chain.get(i) - 2) * 512, content, i * 512, 512);
            }
            int at = b + (1 + 2 * f) * 512 + 32 * k;
            out.put(at, String.format("%-11s ", file.name).getBytes(StandardCharsets.ISO_8859_1));
            out.putShort(at + 24, (short) 33).putShort(at + 26, (short) (chain.isEmpty() ? 0 : chain.get(0)));
            out.putInt(at + 28, file.size);
        }
        byte[] packed = new byte[f * 512];
        for (int e = 0; e < table.length; e++) {
            for (int bit = 0; bit < 12; bit++) {
                int place = 12 * e + bit;
                packed[place / 8] |= (byte) ((table[e] >> bit & 1) << place % 8);
            }
        }
        out.put(b + 512, packed).put(b + 512 + packed.length, packed);
    }

    int byteAt(int at) {
        return at < 0 || at >= disk.length ? -1 : disk[at] & 255;
    }

    int poke(int at, int value) {
        int before = byteAt(at);
        if (before >= 0) {
            disk[at] = (byte) value;
        }
        return before;
    }

    int sum(int at, int count) {
        return at < 0 || count < 0 || (long) at + count > disk.length ? 0 : crc(Arrays.copyOfRange(disk, at, at + count));
    }

    private ByteBuffer read(long sector, int bytes) {
        int at = (int) sector * 512;
        return ByteBuffer.wrap(Arrays.copyOfRange(disk, at, at + bytes)).order(ByteOrder.LITTLE_ENDIAN);
    }

    private static long unsigned(int value) {
        return value & 0xFFFFFFFFL;
    }

    int boot(int mode) {
        if (mode < 0 || mode > 1) {
            return Maker.ILLEGAL;
        }
        booted = new int[] {0, -1, -1, -1};
        memory = new byte[65536];
        if (byteAt(510) != 85 || byteAt(511) != 170) {
            return 1;
        }
        int reason = mode == 0 ? byTable() : byLoader();
        return reason != 0 ? reason : kernel(booted[1]);
    }

    private boolean good(int sector) {
        ByteBuffer head = read(sector, 92);
        ByteBuffer zeroed = ByteBuffer.wrap(head.array().clone()).putInt(16, 0);
        long at = head.getLong(72);
        return new String(head.array(), 0, 8, StandardCharsets.ISO_8859_1).equals("EFI PART") && head.getInt(12) == 92
            && head.getInt(16) == crc(zeroed.array()) && head.getLong(24) == sector && head.getInt(80) == 128
            && head.getInt(84) == 128 && at >= 0 && at < n && at + 31 < n && head.getInt(88) == crc(read(at, 16384).array());
    }

    private int byTable() {
        if (byteAt(450) != 238) {
            return 2;
        }
        booted[0] = good(1) ? 1 : good(n - 1) ? 2 : 0;
        if (booted[0] == 0) {
            return 3;
        }
        ByteBuffer entries = read(read(booted[0] == 1 ? 1 : n - 1, 92).getLong(72), 16384);
        for (int at = 0; at < 16384; at += 128) {
            long first = entries.getLong(at + 32), last = entries.getLong(at + 40);
            if (Arrays.equals(Arrays.copyOfRange(entries.array(), at, at + 16), hex(BOOT))
                && Long.compareUnsigned(first, last) <= 0 && Long.compareUnsigned(last, n) < 0) {
                booted[1] = (int) first;
                return 0;
            }
        }
        return 4;
    }

    private int byLoader() {
        ByteBuffer zero = read(0, 512);
        int runs = byteAt(64);
        if (runs == 0 || runs > 20) {
            return 9;
        }
        ByteArrayOutputStream bytes = new ByteArrayOutputStream();
        zero.position(65);
        for (int i = 0; i < runs; i++) {
            long first = unsigned(zero.getInt());
            int count = zero.getShort() & 0xFFFF;
            if (count == 0 || first + count > n) {
                return 9;
            }
            bytes.write(disk, (int) first * 512, count * 512);
        }
        long size = unsigned(zero.getInt());
        int sum = zero.getInt();
        if (size < 8 || size > 9000 || size > bytes.size()) {
            return 9;
        }
        byte[] loader = Arrays.copyOf(bytes.toByteArray(), (int) size);
        long b = unsigned(ByteBuffer.wrap(loader).order(ByteOrder.LITTLE_ENDIAN).getInt(4));
        if (crc(loader) != sum || !new String(loader, 0, 4, StandardCharsets.ISO_8859_1).equals("LOAD") || b >= n) {
            return 9;
        }
        booted[1] = (int) b;
        return 0;
    }

    private int kernel(int b) {
        ByteBuffer head = read(b, 512);
        int p = head.getShort(19) & 0xFFFF, f = head.getShort(22) & 0xFFFF, clusters = p - 3 - 2 * f;
        if (head.get(510) != 85 || head.get(511) != (byte) 170 || head.getShort(11) != 512 || head.get(13) != 1
            || head.getShort(14) != 1 || head.get(16) != 2 || head.getShort(17) != 32 || f == 0 || clusters < 1
            || (clusters + 2) * 12 > f * 512 * 8 || b + p > n) {
            return 5;
        }
        ByteBuffer directory = read(b + 1 + 2 * f, 1024);
        int at = 0;
        while (at < 1024 && directory.get(at) != 0
            && !new String(directory.array(), at, 12, StandardCharsets.ISO_8859_1).equals("KERNEL      ")) {
            at += 32;
        }
        if (at == 1024 || directory.get(at) == 0) {
            return 6;
        }
        long size = unsigned(directory.getInt(at + 28));
        if (size > clusters * 512L) {
            return 7;
        }
        ByteBuffer table = read(b + 1, f * 512);
        ByteArrayOutputStream bytes = new ByteArrayOutputStream();
        int cluster = size == 0 ? 4095 : directory.getShort(at + 26) & 0xFFFF;
        for (long left = size; left > 0; left -= 512) {
            if (cluster < 2 || cluster > clusters + 1) {
                return 7;
            }
            bytes.write(disk, (b + 1 + 2 * f + cluster) * 512, 512);
            int next = 0;
            for (int bit = 0; bit < 12; bit++) {
                int place = 12 * cluster + bit;
                next |= (table.get(place / 8) >> place % 8 & 1) << bit;
            }
            cluster = next;
        }
        if (cluster < 4088) {
            return 7;
        }
        ByteBuffer kernel = ByteBuffer.wrap(Arrays.copyOf(bytes.toByteArray(), (int) size)).order(ByteOrder.LITTLE_ENDIAN);
        if (size < 8 || !new String(kernel.array(), 0, 4, StandardCharsets.ISO_8859_1).equals("KRNL")
            || unsigned(kernel.getInt(4)) + size > 65536) {
            return 8;
        }
        booted[2] = kernel.getInt(4);
        booted[3] = (int) size;
        System.arraycopy(kernel.array(), 0, memory, booted[2], booted[3]);
        return 0;
    }

    int booted(int what) {
        return what < 0 || what > 3 ? -1 : booted[what];
    }

    int memory(int at) {
        return at < 0 || at >= 65536 ? Maker.NO_SUCH : memory[at] & 255;
    }
}
