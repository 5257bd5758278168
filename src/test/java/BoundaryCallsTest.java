/** The boundaries that promises 1 to 14 name, each sentence with a test of its own. */
public final class BoundaryCallsTest {
    private static final long WAIT = 1L << 49;
    private static final long MASK = 1L << 56;
    private static final String INDEX = "IndexOutOfBoundsException";
    private static final String ARGUMENT = "IllegalArgumentException";

    private interface Call {
        void make();
    }

    public static void main(String[] args) {
        allOfMemoryIsZero();
        nothingIsWanted();
        objectsShareNothing();
        thereIsNoSuchRegister();
        lowestBytesHighestFirst();
        thereAreNoSuchBytes();
        bytesAreNotOneToEight();
        keysAndBlocks();
        wantedBesides();
        codes();
        timerPassesZero();
        timerWrapsAround();
        timerBounds();
        stepBounds();
        stepsUntilItWaits();
        waitsOnlyIfNothingComes();
        toldBounds();
        sumAsAnInt();
        refusedCallsChangeNothing();
        manyCalls();
        Rig.end();
    }

    private static void refused(String what, String due, Call call) {
        String got = "nothing";
        try {
            call.make();
        } catch (RuntimeException e) {
            got = e.getClass().getSimpleName();
        }
        Rig.due(what + " throws", got, due);
    }

    private static void allOfMemoryIsZero() {
        Rig.part("a new object: memory, keys, registers and status are 0");
        for (int block = 0; block < 4; block++) {
            MainframeCore x = new MainframeCore();
            for (int k = 0; k < 2048; k += 8) {
                Rig.due("read", x.read(2048 * block + k, 8), 0);
            }
            for (int k = 0; k < 16; k++) {
                Rig.due("register", x.register(k), 0);
            }
            Rig.due("status", x.status(), 0);
            Rig.due("key", x.key(block, 0), 0);
            Rig.due("sum", x.sum(), 0);
            Rig.due("told", x.told(0) + x.told(1) + x.told(2), 0);
        }
    }

    private static void nothingIsWanted() {
        Rig.part("a new object: nothing is wanted");
        MainframeCore x = new MainframeCore();
        x.load(MASK | WAIT);
        Rig.due("waits", x.waits(), true);
        Rig.due("step", x.step(3000), 0);
        Rig.due("told", x.told(2), 0);
    }

    private static void objectsShareNothing() {
        Rig.part("a new object beside one that is in use");
        MainframeCore x = new MainframeCore();
        x.put(0, -1);
        x.load(-1L);
        x.write(8184, -1L, 8);
        x.key(3, 31);
        x.want(255);
        x.tick(1);
        MainframeCore y = new MainframeCore();
        Rig.due("register", y.register(0), 0);
        Rig.due("status", y.status(), 0);
        Rig.due("sum", y.sum(), 0);
        Rig.due("key", y.key(3, 0), 0);
        y.load(MASK | WAIT);
        Rig.due("waits", y.waits(), true);
    }

    private static void thereIsNoSuchRegister() {
        Rig.part("register, put: IndexOutOfBoundsException: there is none");
        MainframeCore x = new MainframeCore();
        x.put(0, Integer.MIN_VALUE);
        x.put(15, Integer.MAX_VALUE);
        Rig.due("register 0", x.register(0), Integer.MIN_VALUE);
        Rig.due("register 15", x.register(15), Integer.MAX_VALUE);
        Rig.due("register 1", x.register(1), 0);
        Rig.due("register 14", x.register(14), 0);
        int[] none = {-1, 16, -16, 32, Integer.MIN_VALUE, Integer.MAX_VALUE};
        for (int k : none) {
            refused("register " + k, INDEX, () -> x.register(k));
            refused("put " + k, INDEX, () -> x.put(k, 5));
        }
        Rig.due("register 0", x.register(0), Integer.MIN_VALUE);
        Rig.due("register 15", x.register(15), Integer.MAX_VALUE);
    }

    private static void lowestBytesHighestFirst() {
        Rig.part("write: its lowest ones, the highest of these first; read: the first one the highest");
        long v = 0x8182838485868788L;
        for (int n = 1; n <= 8; n++) {
            MainframeCore x = new MainframeCore();
            x.write(99, -1L, 8);
            x.write(107, -1L, 8);
            x.write(100, v, n);
            for (int k = 0; k < n; k++) {
                Rig.due("byte " + k + " of " + n, x.read(100 + k, 1), 0x88 - (n - 1 - k));
            }
            Rig.due("byte before", x.read(99, 1), 255);
            Rig.due("byte behind", x.read(100 + n, 1), 255);
            Rig.due("read " + n, x.read(100, n), n == 8 ? v : v & (1L << 8 * n) - 1);
        }
    }

    private static void thereAreNoSuchBytes() {
        Rig.part("write, read: IllegalArgumentException: there are no such bytes");
        for (int n = 1; n <= 8; n++) {
            MainframeCore x = new MainframeCore();
            int bytes = n;
            x.write(8192 - n, -1L, n);
            Rig.due("read the last " + n, x.read(8192 - n, n), n == 8 ? -1L : (1L << 8 * n) - 1);
            x.write(0, -1L, n);
            Rig.due("read the first " + n, x.read(0, n), n == 8 ? -1L : (1L << 8 * n) - 1);
            int sum = x.sum();
            int[] none = {8192 - n + 1, 8192, 8193, -1, -n, Integer.MIN_VALUE, Integer.MAX_VALUE, Integer.MAX_VALUE - n + 1,
                0x1000000, 65536};
            for (int address : none) {
                refused("write " + address + " " + n, ARGUMENT, () -> x.write(address, 0, bytes));
                refused("read " + address + " " + n, ARGUMENT, () -> x.read(address, bytes));
            }
            Rig.due("sum", x.sum(), sum);
        }
    }

    private static void bytesAreNotOneToEight() {
        Rig.part("write, read: IllegalArgumentException: n is not 1 to 8");
        MainframeCore x = new MainframeCore();
        int[] none = {0, 9, -1, 16, 256, 257, Integer.MIN_VALUE, Integer.MAX_VALUE};
        for (int n : none) {
            refused("write 100 " + n, ARGUMENT, () -> x.write(100, -1L, n));
            refused("read 100 " + n, ARGUMENT, () -> x.read(100, n));
            refused("write 8192 " + n, ARGUMENT, () -> x.write(8192, -1L, n));
            refused("read -1 " + n, ARGUMENT, () -> x.read(-1, n));
        }
        Rig.due("sum", x.sum(), 0);
    }

    private static void keysAndBlocks() {
        Rig.part("key: IllegalArgumentException: block is not 0 to 3, or key not 0 to 31");
        MainframeCore x = new MainframeCore();
        for (int key = 0; key < 32; key++) {
            for (int block = 0; block < 4; block++) {
                Rig.due("key", x.key(block, (key + block) % 32), key == 0 ? 0 : key + block - 1 & 31);
            }
        }
        int[] blocks = {-1, 4, Integer.MIN_VALUE, Integer.MAX_VALUE};
        int[] keys = {-1, 32, 33, 63, 255, Integer.MIN_VALUE, Integer.MAX_VALUE};
        for (int block : blocks) {
            refused("key " + block + " 0", ARGUMENT, () -> x.key(block, 0));
        }
        for (int key : keys) {
            refused("key 0 " + key, ARGUMENT, () -> x.key(0, key));
            refused("key 3 " + key, ARGUMENT, () -> x.key(3, key));
            refused("key 4 " + key, ARGUMENT, () -> x.key(4, key));
        }
        for (int block = 0; block < 4; block++) {
            Rig.due("key", x.key(block, 0), 31 + block & 31);
        }
    }

    private static void wantedBesides() {
        Rig.part("want: external interruptions are wanted besides: bits of code");
        MainframeCore x = new MainframeCore();
        x.want(0x81);
        x.want(0x01);
        x.want(0x10);
        x.want(0);
        x.write(88, MASK | WAIT, 8);
        x.load(MASK | WAIT);
        Rig.due("step", x.step(3000), 1);
        Rig.due("code", x.read(26, 2), 0x91);
        Rig.due("told", x.told(2), 1);
        Rig.due("waits", x.waits(), true);
    }

    private static void codes() {
        Rig.part("want: IllegalArgumentException: code is not 0 to 255");
        MainframeCore x = new MainframeCore();
        x.load(MASK | WAIT);
        int[] none = {-1, 256, 257, 0x180, -256, Integer.MIN_VALUE, Integer.MAX_VALUE};
        for (int code : none) {
            refused("want " + code, ARGUMENT, () -> x.want(code));
            Rig.due("waits", x.waits(), true);
        }
        x.want(0);
        Rig.due("waits, as 0 wants nothing", x.waits(), true);
        x.want(255);
        Rig.due("waits", x.waits(), false);
        for (int bit = 1; bit < 256; bit *= 2) {
            MainframeCore y = new MainframeCore();
            y.load(MASK);
            y.want(bit);
            Rig.due("step", y.step(1), 1);
            Rig.due("old status", y.read(24, 8), MASK | (long) bit << 32);
        }
    }

    private static MainframeCore timed(long timer) {
        MainframeCore x = new MainframeCore();
        x.write(76, -1L, 4);
        x.write(84, -1L, 4);
        x.write(80, timer, 4);
        x.load(MASK | WAIT);
        return x;
    }

    private static void ticked(long timer, int n, int due, boolean wanted) {
        MainframeCore x = timed(timer);
        Rig.due("tick of " + timer + " by " + n, x.tick(n), due);
        Rig.due("timer", x.read(80, 4), due & 0xFFFFFFFFL);
        Rig.due("bytes before", x.read(76, 4), 0xFFFFFFFFL);
        Rig.due("bytes behind", x.read(84, 4), 0xFFFFFFFFL);
        Rig.due("waits", x.waits(), !wanted);
        if (wanted) {
            x.step(1);
            Rig.due("code", x.read(26, 2), 0x80);
        }
    }

    private static void timerPassesZero() {
        Rig.part("tick: if it was not below 0, and is then, the external one 0x80 is wanted");
        ticked(0, 0, 0, false);
        ticked(0, 1, -1, true);
        ticked(1, 1, 0, false);
        ticked(1, 2, -1, true);
        ticked(999999, 1000000, -1, true);
        ticked(1000000, 1000000, 0, false);
        ticked(-1, 0, -1, false);
        ticked(-1, 1, -2, false);
        ticked(Integer.MAX_VALUE, 1000000, Integer.MAX_VALUE - 1000000, false);
        Rig.part("tick: 0x80 is wanted besides what was wanted");
        MainframeCore x = timed(0);
        x.want(0x41);
        x.tick(1);
        x.step(1);
        Rig.due("code", x.read(26, 2), 0xC1);
        Rig.part("tick: 0x80 stays wanted, though the timer is set again");
        MainframeCore y = timed(0);
        y.tick(1);
        y.write(80, 7, 4);
        y.tick(1);
        Rig.due("waits", y.waits(), false);
    }

    private static void timerWrapsAround() {
        Rig.part("tick: n less, as a word with sign");
        ticked(Integer.MIN_VALUE, 0, Integer.MIN_VALUE, false);
        ticked(Integer.MIN_VALUE, 1, Integer.MAX_VALUE, false);
        ticked(Integer.MIN_VALUE, 1000000, Integer.MAX_VALUE - 999999, false);
        ticked(Integer.MIN_VALUE + 1, 1, Integer.MIN_VALUE, false);
    }

    private static void timerBounds() {
        Rig.part("tick: IllegalArgumentException: n is not 0 to 1000000");
        MainframeCore x = timed(5);
        int[] none = {-1, 1000001, Integer.MIN_VALUE, Integer.MAX_VALUE};
        for (int n : none) {
            refused("tick " + n, ARGUMENT, () -> x.tick(n));
            Rig.due("timer", x.read(80, 4), 5);
            Rig.due("waits", x.waits(), true);
        }
        Rig.due("tick", x.tick(0), 5);
        Rig.due("tick", x.tick(1000000), -999995);
    }

    private static void stepBounds() {
        Rig.part("step: IllegalArgumentException: n is not 0 to 3000");
        Rig rig = new Rig("4110100147F00800");
        int[] none = {-1, 3001, Integer.MIN_VALUE, Integer.MAX_VALUE};
        for (int n : none) {
            refused("step " + n, ARGUMENT, () -> rig.core.step(n));
            rig.dueReg(1, 0).dueAddress(Rig.CODE);
        }
        Rig.due("step", rig.core.step(0), 0);
        rig.dueReg(1, 0).dueAddress(Rig.CODE);
        Rig.due("step", rig.core.step(3000), 3000);
        rig.dueReg(1, 1500).dueAddress(Rig.CODE);
        Rig.part("step: 0 takes no external interruption");
        rig.core.want(1);
        rig.core.load(MASK | Rig.CODE);
        Rig.due("step", rig.core.step(0), 0);
        Rig.due("told", rig.core.told(2), 0);
    }

    private static void stepsUntilItWaits() {
        Rig.part("step: so many instructions, or external interruptions; less when the machine waits");
        Rig rig = new Rig("18121812");
        rig.core.write(88, Rig.CODE, 8);
        rig.core.write(104, WAIT, 8);
        rig.core.want(1);
        rig.core.load(MASK | WAIT);
        // The interruption, two instructions, and one that is none.
        Rig.due("step", rig.core.step(3000), 4);
        Rig.due("step", rig.core.step(3000), 0);
        Rig.due("step", rig.core.step(1), 0);
        Rig.due("status", rig.core.status(), WAIT);
        Rig.part("step: an instruction that makes the machine wait is counted");
        Rig loads = new Rig("8200C000").data("0002000000000000");
        Rig.due("step", loads.core.step(2), 1);
        Rig.due("waits", loads.core.waits(), true);
    }

    private static void waitsOnlyIfNothingComes() {
        Rig.part("waits: the status has it, and nothing comes");
        for (int k = 0; k < 8; k++) {
            MainframeCore x = new MainframeCore();
            boolean wait = (k & 1) != 0;
            boolean mask = (k & 2) != 0;
            boolean wanted = (k & 4) != 0;
            x.want(wanted ? 1 : 0);
            x.load((wait ? WAIT : 0) | (mask ? MASK : 0));
            Rig.due("waits " + k, x.waits(), wait && !(mask && wanted));
            Rig.due("status", x.status(), (wait ? WAIT : 0) | (mask ? MASK : 0));
        }
        Rig.part("waits: bits 0 to 6 of the system mask let nothing come");
        MainframeCore x = new MainframeCore();
        x.want(255);
        x.load(0xFE00000000000000L | WAIT);
        Rig.due("waits", x.waits(), true);
        Rig.due("step", x.step(1), 0);
    }

    private static void toldBounds() {
        Rig.part("told: program ones 0, SVC 1, external 2; IllegalArgumentException: another what");
        Rig rig = new Rig("0A000A000000");
        rig.core.write(96, 0x802, 8);
        Rig.due("step", rig.core.step(2), 2);
        rig.core.load(0x804);
        rig.core.write(104, 0x804, 8);
        Rig.due("step", rig.core.step(4), 4);
        rig.core.want(1);
        rig.core.load(MASK);
        Rig.due("step", rig.core.step(1), 1);
        Rig.due("program", rig.core.told(0), 4);
        Rig.due("SVC", rig.core.told(1), 2);
        Rig.due("external", rig.core.told(2), 1);
        int[] none = {-1, 3, 4, Integer.MIN_VALUE, Integer.MAX_VALUE};
        for (int what : none) {
            refused("told " + what, ARGUMENT, () -> rig.core.told(what));
        }
    }

    private static void sumAsAnInt() {
        Rig.part("sum: of each byte, times its address and 1");
        int[] addresses = {0, 1, 2047, 2048, 4096, 8191};
        for (int address : addresses) {
            MainframeCore x = new MainframeCore();
            x.write(address, 0x80, 1);
            Rig.due("sum", x.sum(), 0x80 * (address + 1));
        }
        Rig.part("sum: as an int");
        MainframeCore x = new MainframeCore();
        long sum = 0;
        for (int k = 8192 - 8 * 400; k < 8192; k += 8) {
            x.write(k, -1L, 8);
            for (int j = 0; j < 8; j++) {
                sum += 255L * (k + j + 1);
            }
        }
        Rig.due("it is more than an int", sum > Integer.MAX_VALUE, true);
        Rig.due("sum", x.sum(), (int) sum);
    }

    private static MainframeCore used() {
        Rig rig = new Rig("0A07");
        rig.go();
        MainframeCore x = rig.core;
        for (int k = 0; k < 16; k++) {
            x.put(k, 0x1000 + k);
        }
        for (int block = 0; block < 4; block++) {
            x.key(block, 9 + block);
        }
        x.write(80, 3, 4);
        x.want(0x24);
        x.load(WAIT | 0xF0F07F123456L);
        return x;
    }

    private static void refusedCallsChangeNothing() {
        Rig.part("a call that throws changes nothing");
        MainframeCore x = used();
        MainframeCore y = used();
        refused("register", INDEX, () -> x.register(16));
        refused("put", INDEX, () -> x.put(-1, 77));
        refused("put", INDEX, () -> x.put(16, 77));
        refused("write", ARGUMENT, () -> x.write(8190, -1L, 4));
        refused("write", ARGUMENT, () -> x.write(-2, -1L, 4));
        refused("write", ARGUMENT, () -> x.write(0, -1L, 9));
        refused("write", ARGUMENT, () -> x.write(0, -1L, 0));
        refused("read", ARGUMENT, () -> x.read(8190, 4));
        refused("key", ARGUMENT, () -> x.key(0, 32));
        refused("key", ARGUMENT, () -> x.key(4, 1));
        refused("key", ARGUMENT, () -> x.key(-1, 1));
        refused("want", ARGUMENT, () -> x.want(256));
        refused("want", ARGUMENT, () -> x.want(-1));
        refused("tick", ARGUMENT, () -> x.tick(1000001));
        refused("tick", ARGUMENT, () -> x.tick(-1));
        refused("step", ARGUMENT, () -> x.step(3001));
        refused("step", ARGUMENT, () -> x.step(-1));
        refused("told", ARGUMENT, () -> x.told(3));
        same(x, y);
        x.load(MASK);
        y.load(MASK);
        Rig.due("step", x.step(1), y.step(1));
        Rig.due("old status", x.read(24, 8), y.read(24, 8));
        Rig.due("code", x.read(26, 2), 0x24);
        same(x, y);
    }

    private static void same(MainframeCore x, MainframeCore y) {
        for (int k = 0; k < 16; k++) {
            Rig.due("register", x.register(k), y.register(k));
        }
        for (int what = 0; what < 3; what++) {
            Rig.due("told", x.told(what), y.told(what));
        }
        for (int block = 0; block < 4; block++) {
            Rig.due("key", x.key(block, 9 + block), y.key(block, 9 + block));
        }
        for (int k = 0; k < 8192; k += 128) {
            Rig.due("read", x.read(k, 8), y.read(k, 8));
        }
        Rig.due("timer", x.read(80, 4), y.read(80, 4));
        Rig.due("sum", x.sum(), y.sum());
        Rig.due("status", x.status(), y.status());
        Rig.due("waits", x.waits(), y.waits());
    }

    /** The dearest instruction, in every step of all calls that an object is used for. */
    private static void manyCalls() {
        Rig.part("an object is used for at most 512 calls");
        MainframeCore x = new MainframeCore();
        x.write(0x800, 0x41101001D2FFL, 6);
        x.write(0x806, 0xC001C00047F0L, 6);
        x.write(0x80C, 0x0800, 2);
        x.write(0x1000, 0xA5, 1);
        x.put(12, 0x1000);
        x.load(0x800);
        for (int k = 0; k < 500; k++) {
            Rig.due("step", x.step(3000), 3000);
        }
        Rig.due("register", x.register(1), 500000);
        Rig.due("read", x.read(0x10FC, 6), 0xA5A5A5A5A500L);
    }
}
