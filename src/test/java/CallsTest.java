/** The calls that do no instruction: promises 1 to 10 and 12 to 14. */
public final class CallsTest {
    private static final long WAIT = 1L << 49;
    private static final long MASK = 1L << 56;

    public static void main(String[] args) {
        newObject();
        registers();
        statusAndLoad();
        writeAndRead();
        keys();
        wants();
        ticks();
        waits();
        tolds();
        sums();
        Rig.end();
    }

    private static void newObject() {
        Rig.part("promise 1");
        MainframeCore x = new MainframeCore();
        for (int k = 0; k < 16; k++) {
            Rig.due("register", x.register(k), 0);
        }
        Rig.due("sum", x.sum(), 0);
        for (int k = 0; k < 8192; k += 64) {
            Rig.due("read", x.read(k, 8), 0);
        }
        for (int k = 0; k < 4; k++) {
            Rig.due("key", x.key(k, 0), 0);
        }
        for (int k = 0; k < 3; k++) {
            Rig.due("told", x.told(k), 0);
        }
        Rig.due("status", x.status(), 0);
        Rig.due("waits", x.waits(), false);
        x.load(MASK | WAIT);
        Rig.due("waits, as nothing is wanted", x.waits(), true);
    }

    private static void registers() {
        Rig.part("promises 2 and 3");
        MainframeCore x = new MainframeCore();
        for (int k = 0; k < 16; k++) {
            x.put(k, Integer.MIN_VALUE + k);
        }
        int[] none = {-1, 16, 17, Integer.MIN_VALUE, Integer.MAX_VALUE};
        for (int k : none) {
            Rig.due("register " + k + " throws", thrown(x, 0, k, 0, 0), "IndexOutOfBoundsException");
            Rig.due("put " + k + " throws", thrown(x, 1, k, 7, 0), "IndexOutOfBoundsException");
        }
        for (int k = 0; k < 16; k++) {
            Rig.due("register", x.register(k), Integer.MIN_VALUE + k);
        }
    }

    private static void statusAndLoad() {
        Rig.part("promises 4 and 5");
        MainframeCore x = new MainframeCore();
        x.load(-1L);
        Rig.due("status", x.status(), 0xFFF3FFFFFFFFFFFFL);
        x.load(0x0123456789ABCDEFL);
        Rig.due("status", x.status(), 0x0123456789ABCDEFL);
        x.load(0x000C000000000000L);
        Rig.due("status", x.status(), 0);
        for (int bit = 0; bit < 64; bit++) {
            x.load(1L << 63 - bit);
            Rig.due("bit " + bit, x.status(), bit == 12 || bit == 13 ? 0 : 1L << 63 - bit);
        }
    }

    private static void writeAndRead() {
        Rig.part("promises 6 and 7");
        MainframeCore x = new MainframeCore();
        x.write(100, 0x1122334455667788L, 8);
        for (int n = 1; n <= 8; n++) {
            Rig.due("read", x.read(100, n), 0x1122334455667788L >>> 64 - 8 * n);
        }
        x.write(101, 0xFEDCBA9876543210L, 3);
        Rig.due("read", x.read(100, 8), 0x1154321055667788L);
        x.write(8184, -1L, 8);
        Rig.due("read", x.read(8184, 8), -1L);
        Rig.due("read", x.read(8191, 1), 255);
        x.write(8191, 0x80, 1);
        Rig.due("read", x.read(8190, 2), 0xFF80);
        int[][] none = {{8185, 8}, {8191, 2}, {8192, 1}, {-1, 1}, {0, 0}, {0, 9}, {0, -1}, {-8, 8},
            {Integer.MAX_VALUE, 8}, {Integer.MIN_VALUE, 1}, {Integer.MAX_VALUE, Integer.MAX_VALUE}, {8000, Integer.MIN_VALUE}};
        int sum = x.sum();
        for (int[] p : none) {
            Rig.due("write throws", thrown(x, 2, p[0], p[1], 0), "IllegalArgumentException");
            Rig.due("read throws", thrown(x, 3, p[0], p[1], 0), "IllegalArgumentException");
        }
        Rig.due("sum", x.sum(), sum);
        x.key(0, 31);
        x.load(0x0010000000000000L);
        x.write(0, 77, 1);
        Rig.due("keys don't keep calls out", x.read(0, 1), 77);
    }

    private static void keys() {
        Rig.part("promise 8");
        MainframeCore x = new MainframeCore();
        Rig.due("key", x.key(0, 31), 0);
        Rig.due("key", x.key(3, 1), 0);
        Rig.due("key", x.key(0, 16), 31);
        Rig.due("key", x.key(3, 0), 1);
        Rig.due("key", x.key(1, 0), 0);
        int[][] none = {{-1, 0}, {4, 0}, {0, -1}, {0, 32}, {4, 32}, {Integer.MAX_VALUE, 0}, {0, Integer.MIN_VALUE}};
        for (int[] p : none) {
            Rig.due("key throws", thrown(x, 4, p[0], p[1], 0), "IllegalArgumentException");
        }
        Rig.due("key", x.key(0, 0), 16);
    }

    private static void wants() {
        Rig.part("promise 9");
        MainframeCore x = new MainframeCore();
        x.want(1);
        x.want(0x84);
        x.want(0);
        int[] none = {-1, 256, Integer.MIN_VALUE, Integer.MAX_VALUE};
        for (int code : none) {
            Rig.due("want throws", thrown(x, 5, code, 0, 0), "IllegalArgumentException");
        }
        x.load(MASK);
        Rig.due("step", x.step(1), 1);
        Rig.due("code", x.read(26, 2), 0x85);
        Rig.due("told", x.told(2), 1);
        x.load(MASK | WAIT);
        Rig.due("wanted no more", x.step(1), 0);
        x.want(255);
        Rig.due("step", x.step(1), 1);
        Rig.due("code", x.read(26, 2), 0xFF);
        x.want(0);
        x.load(MASK | WAIT);
        Rig.due("0 wants nothing", x.waits(), true);
    }

    private static void ticks() {
        Rig.part("promise 10");
        MainframeCore x = new MainframeCore();
        x.load(MASK | WAIT);
        x.write(80, 5, 4);
        Rig.due("tick", x.tick(0), 5);
        Rig.due("tick", x.tick(5), 0);
        Rig.due("waits", x.waits(), true);
        int[] none = {-1, 1000001, Integer.MIN_VALUE, Integer.MAX_VALUE};
        for (int n : none) {
            Rig.due("tick throws", thrown(x, 6, n, 0, 0), "IllegalArgumentException");
        }
        Rig.due("tick", x.tick(1), -1);
        Rig.due("read", x.read(80, 4), 0xFFFFFFFFL);
        Rig.due("waits", x.waits(), false);
        Rig.due("step", x.step(1), 1);
        Rig.due("code", x.read(26, 2), 0x80);
        x.load(MASK | WAIT);
        Rig.due("tick", x.tick(1000000), -1000001);
        Rig.due("waits, as it was below 0 before", x.waits(), true);
        x.write(80, 0x80000000L, 4);
        Rig.due("tick", x.tick(1), Integer.MAX_VALUE);
        Rig.due("waits", x.waits(), true);
        x.write(76, -1, 4);
        x.write(84, -1, 4);
        x.write(80, 3, 4);
        Rig.due("tick", x.tick(1000000), -999997);
        Rig.due("bytes beside it", x.read(76, 4) & x.read(84, 4), 0xFFFFFFFFL);
        Rig.due("waits", x.waits(), false);
        x.key(0, 31);
        x.load(0x0010000000000000L);
        Rig.due("keys don't keep the timer", x.tick(3), -1000000);
    }

    private static void waits() {
        Rig.part("promise 12");
        MainframeCore x = new MainframeCore();
        Rig.due("waits", x.waits(), false);
        x.load(WAIT);
        Rig.due("waits", x.waits(), true);
        x.want(4);
        Rig.due("waits, what is wanted being masked", x.waits(), true);
        Rig.due("step", x.step(3000), 0);
        x.load(~MASK);
        Rig.due("waits", x.waits(), true);
        x.load(MASK | WAIT);
        Rig.due("waits", x.waits(), false);
        x.load(~WAIT);
        Rig.due("waits", x.waits(), false);
        Rig.due("status", x.status(), ~WAIT & 0xFFF3FFFFFFFFFFFFL);
    }

    private static void tolds() {
        Rig.part("promise 13");
        MainframeCore x = new MainframeCore();
        x.write(0x800, 0x0A00, 2);
        x.write(0x802, 0x0A01, 2);
        x.write(96, 0x802, 8);
        x.load(0x800);
        x.step(4);
        Rig.due("SVC", x.told(1), 4);
        x.want(1);
        x.load(MASK);
        x.step(1);
        x.want(1);
        x.load(MASK);
        x.step(4);
        Rig.due("external", x.told(2), 2);
        Rig.due("program", x.told(0), 3);
        int[] none = {-1, 3, Integer.MIN_VALUE, Integer.MAX_VALUE};
        for (int what : none) {
            Rig.due("told throws", thrown(x, 8, what, 0, 0), "IllegalArgumentException");
        }
        Rig.part("promise 11");
        int[] steps = {-1, 3001, Integer.MIN_VALUE, Integer.MAX_VALUE};
        int sum = x.sum();
        for (int n : steps) {
            Rig.due("step throws", thrown(x, 7, n, 0, 0), "IllegalArgumentException");
        }
        Rig.due("step", x.step(0), 0);
        Rig.due("sum", x.sum(), sum);
        Rig.due("told", x.told(0), 3);
    }

    private static void sums() {
        Rig.part("promise 14");
        MainframeCore x = new MainframeCore();
        x.write(0, 200, 1);
        Rig.due("sum", x.sum(), 200);
        x.write(8191, 255, 1);
        Rig.due("sum", x.sum(), 200 + 255 * 8192);
        x = new MainframeCore();
        for (int k = 6144; k < 8192; k += 8) {
            x.write(k, -1L, 8);
        }
        Rig.due("sum, as an int", x.sum(), (int) (255L * (8192L * 8193 - 6144L * 6145) / 2));
    }

    private static String thrown(MainframeCore x, int call, int p, int q, int r) {
        try {
            switch (call) {
                case 0: x.register(p); break;
                case 1: x.put(p, q); break;
                case 2: x.write(p, -1L, q); break;
                case 3: x.read(p, q); break;
                case 4: x.key(p, q); break;
                case 5: x.want(p); break;
                case 6: x.tick(p); break;
                case 7: x.step(p); break;
                default: x.told(p); break;
            }
        } catch (RuntimeException e) {
            return e.getClass().getSimpleName();
        }
        return "nothing";
    }
}
