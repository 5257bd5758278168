import java.math.BigInteger;

/** Promise 11: 88 to 8F. */
public final class ShiftsTest {
    private static final int[] WORDS = {0, 1, -1, Integer.MIN_VALUE, Integer.MAX_VALUE, 0x40000000, 0xC0000000, 0xBFFFFFFF, 0x12345678};

    public static void main(String[] args) {
        written();
        for (int x : WORDS) {
            for (int n = 0; n < 64; n++) {
                word(x, n);
            }
        }
        for (int x : WORDS) {
            for (int y : WORDS) {
                for (int n = 0; n < 64; n += n < 4 || n > 59 ? 1 : 7) {
                    pair((long) x << 32 | y & 0xFFFFFFFFL, n);
                }
            }
        }
        Rig.end();
    }

    private static void written() {
        Rig.part("8B");
        new Rig("8B100001").reg(1, 0x40000000).go().dueReg(1, 0).dueCondition(3);
        new Rig("8B100001").reg(1, 0xC0000000).go().dueReg(1, 0x80000000).dueCondition(1);
        new Rig("8B10001F").reg(1, -1).go().dueReg(1, 0x80000000).dueCondition(1);
        new Rig("8B100020").reg(1, -1).go().dueReg(1, 0x80000000).dueCondition(3);
        new Rig("8B100040").reg(1, -1).go().dueReg(1, -1).dueCondition(1);
        new Rig("8B10C7C1").reg(12, -1).reg(1, 3).go().dueReg(1, 3).dueCondition(2);
        new Rig("8B1F0001").reg(1, 3).reg(15, 9).go().dueReg(1, 6).dueCondition(2);
        new Rig("8B100001").reg(1, 0x40000000).status(0, 0x08).go().dueReg(1, 0).dueOld(8, 2, 3, Rig.CODE + 4);
        new Rig("8B100001").reg(1, 0x40000000).status(0, 0x07).go().dueCondition(3);
        Rig.part("8F");
        new Rig("8F200001").reg(2, 0x40000000).status(0, 0x08).go().dueReg(2, 0).dueOld(8, 2, 3, Rig.CODE + 4);
        new Rig("8F200004").reg(2, 0).reg(3, 0xF0000001).go().dueReg(2, 15).dueReg(3, 16).dueCondition(2);
        String[] doubles = {"8C", "8D", "8E", "8F"};
        for (String operation : doubles) {
            Rig.part(operation);
            new Rig(operation + "300001").reg(3, 4).go().dueReg(3, 4).dueOld(6, 2, 0, Rig.CODE + 4);
            new Rig(operation + "E00000").reg(14, 4).reg(15, 5).go().dueReg(14, 4).dueReg(15, 5);
        }
    }

    private static void word(int x, int n) {
        Rig.part("word " + x + " by " + n);
        BigInteger signed = BigInteger.valueOf(x);
        BigInteger unsigned = BigInteger.valueOf(x & 0xFFFFFFFFL);
        shift("88", x, n).dueReg(1, unsigned.shiftRight(n).intValue()).dueCondition(3);
        shift("89", x, n).dueReg(1, unsigned.shiftLeft(n).intValue()).dueCondition(3);
        int right = signed.shiftRight(n).intValue();
        shift("8A", x, n).dueReg(1, right).dueCondition(right == 0 ? 0 : right < 0 ? 1 : 2);
        BigInteger exact = signed.shiftLeft(n);
        int left = exact.intValue() & Integer.MAX_VALUE | x & Integer.MIN_VALUE;
        boolean lost = exact.bitLength() > 31;
        shift("8B", x, n).dueReg(1, left).dueCondition(lost ? 3 : left == 0 ? 0 : left < 0 ? 1 : 2);
    }

    private static Rig shift(String operation, int x, int n) {
        return new Rig(String.format("%s100%03X", operation, n)).reg(1, x).reg(2, -99).condition(3).go().dueReg(2, -99);
    }

    private static void pair(long x, int n) {
        Rig.part("double " + x + " by " + n);
        due("8C", x, n, x >>> n, 3);
        due("8D", x, n, x << n, 3);
        due("8E", x, n, x >> n, Long.signum(x >> n) == 0 ? 0 : x < 0 ? 1 : 2);
        BigInteger exact = BigInteger.valueOf(x).shiftLeft(n);
        long left = exact.longValue() & Long.MAX_VALUE | x & Long.MIN_VALUE;
        due("8F", x, n, left, exact.bitLength() > 63 ? 3 : left == 0 ? 0 : left < 0 ? 1 : 2);
    }

    private static void due(String operation, long x, int n, long due, int condition) {
        new Rig(String.format("%s400%03X", operation, n)).reg(4, (int) (x >> 32)).reg(5, (int) x).condition(3).go()
            .dueReg(4, (int) (due >> 32)).dueReg(5, (int) due).dueCondition(condition);
    }
}
