import java.math.BigInteger;

/** A new machine with a program in it, and the answers that are due from it. */
final class Rig {
    /** Where programs and data of the tests lie: blocks 1, 2 and 3. */
    static final int CODE = 0x800;
    static final int DATA = 0x1000;
    static final int MORE = 0x1800;

    private static int wrong = 0;
    private static int asked = 0;
    private static String part = "";

    final MainframeCore core = new MainframeCore();

    /**
     * Instructions from CODE on. Interruptions lead to a machine that waits. Bases of the tests are
     * register 12 (DATA), 13 (MORE), 11 (the last 16 bytes of memory) and 10 (the first byte behind it).
     */
    Rig(String code) {
        bytes(CODE, code);
        core.write(104, 1L << 49, 8);
        core.write(96, 1L << 49, 8);
        core.write(88, 1L << 49, 8);
        core.put(10, 0x2000);
        core.put(11, 0x1FF0);
        core.put(12, DATA);
        core.put(13, MORE);
        core.load(CODE);
    }

    static void part(String name) {
        part = name;
    }

    static void due(String what, long got, long want) {
        asked++;
        if (got != want) {
            wrong++;
            System.out.println(part + ": " + what + " answered 0x" + Long.toHexString(got) + ", due is 0x"
                + Long.toHexString(want));
        }
    }

    static void due(String what, boolean got, boolean want) {
        due(what, got ? 1 : 0, want ? 1 : 0);
    }

    static void due(String what, String got, String want) {
        asked++;
        if (!got.equals(want)) {
            wrong++;
            System.out.println(part + ": " + what + " answered " + got + ", due is " + want);
        }
    }

    /** The last words of every test. */
    static void end() {
        if (asked == 0) {
            System.out.println("nothing was asked");
        }
        if (wrong != 0 || asked == 0) {
            System.exit(1);
        }
    }

    Rig bytes(int address, String hex) {
        for (int k = 0; k < hex.length() / 2; k++) {
            core.write(address + k, Integer.parseInt(hex.substring(2 * k, 2 * k + 2), 16), 1);
        }
        return this;
    }

    Rig data(String hex) {
        return bytes(DATA, hex);
    }

    Rig more(String hex) {
        return bytes(MORE, hex);
    }

    Rig reg(int k, int v) {
        core.put(k, v);
        return this;
    }

    /** The status at the beginning: its upper word, and its last word's first byte (condition and mask). */
    Rig status(int upper, int conditionAndMask) {
        core.load((long) upper << 32 | (long) conditionAndMask << 24 | CODE);
        return this;
    }

    Rig condition(int v) {
        return status(0, v << 4);
    }

    Rig blockKey(int block, int v) {
        core.key(block, v);
        return this;
    }

    Rig go(int n) {
        due("step", core.step(n), n);
        return this;
    }

    Rig go() {
        return go(1);
    }

    String memory(int address, int n) {
        StringBuilder text = new StringBuilder();
        for (int k = 0; k < n; k++) {
            text.append(String.format("%02X", core.read(address + k, 1)));
        }
        return text.toString();
    }

    Rig dueMemory(int address, String hex) {
        due("memory at " + address, memory(address, hex.length() / 2), hex);
        return this;
    }

    Rig dueData(String hex) {
        return dueMemory(DATA, hex);
    }

    Rig dueReg(int k, int v) {
        due("register " + k, core.register(k), v);
        return this;
    }

    Rig dueCondition(int v) {
        due("condition", core.status() >>> 28 & 3, v);
        return dueFault(0);
    }

    Rig dueAddress(int v) {
        due("address", core.status() & 0xFFFFFF, v);
        return this;
    }

    /** The exception that the first instruction met, or 0. */
    Rig dueFault(int v) {
        due("program interruptions", core.told(0), v == 0 ? 0 : 1);
        due("code", core.read(42, 2), v);
        return this;
    }

    /** Code, length, condition and address in the old status of a program interruption. */
    Rig dueOld(int code, int length, int condition, int address) {
        long old = core.read(40, 8);
        due("old code", old >>> 32 & 0xFFFF, code);
        due("old length", old >>> 30 & 3, length);
        due("old condition", old >>> 28 & 3, condition);
        due("old address", old & 0xFFFFFF, address);
        return this;
    }

    /** A decimal of n bytes with a written sign. */
    static String decimal(BigInteger v, int n, boolean below) {
        StringBuilder digits = new StringBuilder(v.abs().toString());
        while (digits.length() < 2 * n - 1) {
            digits.insert(0, '0');
        }
        return digits.substring(digits.length() - (2 * n - 1)) + (below ? "D" : "C");
    }
}
