/** The boundaries of the operations on registers, bytes and strings, and of interruptions, sentence by sentence. */
public final class BoundaryOperationsTest {
    private static final int MIN = Integer.MIN_VALUE;
    private static final int MAX = Integer.MAX_VALUE;
    private static final long WAIT = 1L << 49;
    private static final long MASK = 1L << 56;

    public static void main(String[] args) {
        conditionsByNumbers();
        behind15Comes0();
        carries();
        lowWords();
        quotients();
        lowestSixBits();
        anotherBitThanTheSign();
        takenBeforeRChanges();
        ifNotNumber0();
        countsAndIndices();
        joinedByte();
        keysOfBlocks();
        bitsThatIHas();
        firstBit();
        longestStrings();
        upToTheFirstThatDiffer();
        lastOneOrElse();
        oldAndNew();
        addressBehind();
        lengthsInOldStatus();
        externalsAtOnce();
        externalBehindAnother();
        Rig.end();
    }

    private static void conditionsByNumbers() {
        Rig.part("12 the same, 13 less than 0 by it, 10 without sign, 11 with sign below 0: by numbers");
        int[][] rows = {
            {MIN, MIN, 1, MIN, 3, MIN, 3, MIN, 1},
            {MIN + 1, MIN + 1, 1, MAX, 2, MAX, 2, MIN + 1, 1},
            {-1, -1, 1, 1, 2, 1, 2, -1, 1},
            {0, 0, 0, 0, 0, 0, 0, 0, 0},
            {1, 1, 2, -1, 1, 1, 2, -1, 1},
            {MAX, MAX, 2, MIN + 1, 1, MAX, 2, MIN + 1, 1}};
        String[] codes = {"1212", "1312", "1012", "1112"};
        for (int[] row : rows) {
            for (int k = 0; k < 4; k++) {
                new Rig(codes[k]).reg(1, 99).reg(2, row[0]).condition(3 - row[2 + 2 * k]).go().dueReg(1, row[1 + 2 * k])
                    .dueReg(2, row[0]).dueCondition(row[2 + 2 * k]);
            }
        }
        Rig.part("1A, 4A and 1B, 4B at the edges of a word");
        new Rig("1A12").reg(1, MAX - 1).reg(2, 1).go().dueReg(1, MAX).dueCondition(2);
        new Rig("1A12").reg(1, MAX).reg(2, 1).go().dueReg(1, MIN).dueCondition(3);
        new Rig("1A12").reg(1, MIN + 1).reg(2, -1).go().dueReg(1, MIN).dueCondition(1);
        new Rig("1A12").reg(1, MIN).reg(2, -1).go().dueReg(1, MAX).dueCondition(3);
        new Rig("1B12").reg(1, MIN + 1).reg(2, 1).go().dueReg(1, MIN).dueCondition(1);
        new Rig("1B12").reg(1, MIN).reg(2, 1).go().dueReg(1, MAX).dueCondition(3);
        new Rig("1B12").reg(1, 0).reg(2, MIN).go().dueReg(1, MIN).dueCondition(3);
        new Rig("1B12").reg(1, -1).reg(2, MIN).go().dueReg(1, MAX).dueCondition(2);
        new Rig("1B12").reg(1, MIN).reg(2, MIN).go().dueReg(1, 0).dueCondition(0);
        new Rig("4A10C000").reg(1, MAX - 0x7FFF).data("7FFF").go().dueReg(1, MAX).dueCondition(2);
        new Rig("4A10C000").reg(1, MAX - 0x7FFE).data("7FFF").go().dueReg(1, MIN).dueCondition(3);
        new Rig("4B10C000").reg(1, MAX - 0x8000).data("8000").go().dueReg(1, MAX).dueCondition(2);
        new Rig("4B10C000").reg(1, MAX - 0x7FFF).data("8000").go().dueReg(1, MIN).dueCondition(3);
    }

    private static void behind15Comes0() {
        Rig.part("98, 90: registers r, r + 1, .. s (behind 15 comes 0)");
        for (int r = 0; r < 16; r++) {
            for (int s = 0; s < 16; s += 5) {
                loadAndStore(r, s);
            }
            loadAndStore(r, r);
            loadAndStore(r, (r + 15) % 16);
        }
    }

    /** Registers have 100 and their number, words at 0x100 have 200 and theirs. */
    private static void loadAndStore(int r, int s) {
        int count = (s - r + 16) % 16 + 1;
        Rig load = numbered(String.format("98%X%X0100", r, s)).go();
        Rig store = numbered(String.format("90%X%X0100", r, s)).go();
        for (int k = 0; k < 16; k++) {
            int number = (r + k) % 16;
            load.dueReg(number, k < count ? 200 + k : 100 + number);
            Rig.due("word " + k, store.core.read(0x100 + 4 * k, 4), k < count ? 100 + number : 200 + k);
            store.dueReg(k, 100 + k);
        }
    }

    private static Rig numbered(String code) {
        Rig rig = new Rig(code);
        for (int k = 0; k < 16; k++) {
            rig.core.put(k, 100 + k);
            rig.core.write(0x100 + 4 * k, 200 + k, 4);
        }
        return rig;
    }

    private static void carries() {
        Rig.part("1E, 1F: 0 or 1 without a carry, 2 or 3 with one (of a difference: of r, the turned one and 1)");
        new Rig("1E12").reg(1, 0).reg(2, 0).condition(3).go().dueReg(1, 0).dueCondition(0);
        new Rig("1E12").reg(1, -2).reg(2, 1).go().dueReg(1, -1).dueCondition(1);
        new Rig("1E12").reg(1, -1).reg(2, 1).go().dueReg(1, 0).dueCondition(2);
        new Rig("1E12").reg(1, -1).reg(2, -1).go().dueReg(1, -2).dueCondition(3);
        new Rig("1E12").reg(1, MIN).reg(2, MIN).go().dueReg(1, 0).dueCondition(2);
        new Rig("1F12").reg(1, 0).reg(2, 1).condition(3).go().dueReg(1, -1).dueCondition(1);
        new Rig("1F12").reg(1, 0).reg(2, 0).condition(3).go().dueReg(1, 0).dueCondition(2);
        new Rig("1F12").reg(1, -1).reg(2, -1).go().dueReg(1, 0).dueCondition(2);
        new Rig("1F12").reg(1, -1).reg(2, 0).go().dueReg(1, -1).dueCondition(3);
        new Rig("1F12").reg(1, 0).reg(2, MIN).go().dueReg(1, MIN).dueCondition(1);
        new Rig("1F12").reg(1, MIN).reg(2, 0).go().dueReg(1, MIN).dueCondition(3);
        Rig.part("15, 55 without signs, 19, 59 with them");
        new Rig("1512").reg(1, MIN).reg(2, MAX).go().dueCondition(2);
        new Rig("1912").reg(1, MIN).reg(2, MAX).go().dueCondition(1);
        new Rig("5510C000").reg(1, 0).data("FFFFFFFF").go().dueCondition(1);
        new Rig("5910C000").reg(1, 0).data("FFFFFFFF").go().dueCondition(2);
    }

    private static void lowWords() {
        Rig.part("4C: r times M, its low word");
        new Rig("4C10C000").reg(1, MIN).data("FFFF").status(0, 0x0F).go().dueReg(1, MIN).dueFault(0);
        new Rig("4C10C000").reg(1, MAX).data("7FFF").status(0, 0x0F).go().dueReg(1, MAX * 0x7FFF).dueFault(0);
        new Rig("4C10C000").reg(1, 0x20000).data("8000").go().dueReg(1, 0);
        Rig.part("1C, 5C: as a double to r and r + 1");
        new Rig("1C46").reg(5, MIN).reg(6, MIN).status(0, 0x0F).go().dueReg(4, 0x40000000).dueReg(5, 0).dueFault(0);
        new Rig("1C46").reg(5, MIN).reg(6, 1).go().dueReg(4, -1).dueReg(5, MIN);
        new Rig("1C46").reg(4, 7).reg(5, 0).reg(6, -1).go().dueReg(4, 0).dueReg(5, 0);
        Rig.part("40, 42: its last half, its last byte");
        new Rig("4010C002").reg(1, 0x89ABCDEF).data("1111111111").go().dueData("1111CDEF11");
        new Rig("4210C001").reg(1, 0x89ABCDEF).data("111111").go().dueData("11EF11");
    }

    private static void divided(long dividend, int divisor, int quotient, int rest) {
        new Rig("1D46").reg(4, (int) (dividend >> 32)).reg(5, (int) dividend).reg(6, divisor).go().dueReg(5, quotient)
            .dueReg(4, rest).dueFault(0);
    }

    private static void undivided(long dividend, int divisor) {
        new Rig("1D46").reg(4, (int) (dividend >> 32)).reg(5, (int) dividend).reg(6, divisor).go()
            .dueReg(4, (int) (dividend >> 32)).dueReg(5, (int) dividend).dueOld(9, 1, 0, Rig.CODE + 2);
    }

    private static void quotients() {
        Rig.part("1D: the quotient, cut off, the rest, with the first one's sign");
        divided(7, 2, 3, 1);
        divided(-7, 2, -3, -1);
        divided(7, -2, -3, 1);
        divided(-7, -2, 3, -1);
        divided(-1, 2, 0, -1);
        divided(MAX, 1, MAX, 0);
        divided(MIN, 1, MIN, 0);
        divided(1L << 31, -1, MIN, 0);
        divided(MAX * 3L + 2, 3, MAX, 2);
        divided(MIN * 3L - 2, 3, MIN, -2);
        divided(MIN * (long) MIN - 1, MIN, -MAX, MAX);
        Rig.part("9, if the quotient is no word");
        undivided(0, 0);
        undivided(-1, 0);
        undivided(1L << 31, 1);
        undivided(MIN - 1L, 1);
        undivided(MIN, -1);
        undivided(MAX * 3L + 3, 3);
        undivided(MIN * 3L - 3, 3);
        undivided(MIN * (long) MIN * 2, MIN);
        undivided(Long.MIN_VALUE, MIN);
        undivided(Long.MIN_VALUE, -1);
        undivided(Long.MAX_VALUE, 1);
    }

    private static void lowestSixBits() {
        Rig.part("shifts by a's lowest six bits");
        for (int operation = 0x88; operation < 0x90; operation++) {
            String none = String.format("%02X400040", operation);
            new Rig(none).reg(4, 0x81234567).reg(5, 0x89ABCDEF).go().dueReg(4, 0x81234567).dueReg(5, 0x89ABCDEF);
            String one = String.format("%02X40EFC1", operation);
            Rig far = new Rig(one).reg(14, 0xFFFFF040).reg(4, 0x20).reg(5, 0x40).go();
            Rig near = new Rig(String.format("%02X400001", operation)).reg(4, 0x20).reg(5, 0x40).go();
            far.dueReg(4, near.core.register(4)).dueReg(5, near.core.register(5));
            Rig.due("it is shifted", near.core.register(4) != 0x20, true);
        }
        Rig.part("by 63, 32 and 31");
        new Rig("8810003F").reg(1, -1).go().dueReg(1, 0);
        new Rig("88100020").reg(1, -1).go().dueReg(1, 0);
        new Rig("8810001F").reg(1, -1).go().dueReg(1, 1);
        new Rig("8910003F").reg(1, -1).go().dueReg(1, 0);
        new Rig("89100020").reg(1, -1).go().dueReg(1, 0);
        new Rig("8910001F").reg(1, -1).go().dueReg(1, MIN);
        new Rig("8A10003F").reg(1, MIN).go().dueReg(1, -1).dueCondition(1);
        new Rig("8A100020").reg(1, MAX).condition(3).go().dueReg(1, 0).dueCondition(0);
        new Rig("8A10001F").reg(1, MIN).go().dueReg(1, -1).dueCondition(1);
        new Rig("8C20003F").reg(2, MIN).reg(3, 0).go().dueReg(2, 0).dueReg(3, 1);
        new Rig("8D20003F").reg(2, 0).reg(3, 1).go().dueReg(2, MIN).dueReg(3, 0);
        new Rig("8E20003F").reg(2, MIN).reg(3, 0).go().dueReg(2, -1).dueReg(3, -1).dueCondition(1);
        new Rig("8E20003F").reg(2, MAX).reg(3, -1).go().dueReg(2, 0).dueReg(3, 0).dueCondition(0);
        new Rig("8E200000").reg(2, 0).reg(3, MIN).go().dueReg(2, 0).dueReg(3, MIN).dueCondition(2);
    }

    private static void anotherBitThanTheSign() {
        Rig.part("8B, 8F: overflow, if another bit than the sign goes out");
        new Rig("8B100001").reg(1, 0x3FFFFFFF).go().dueReg(1, 0x7FFFFFFE).dueCondition(2);
        new Rig("8B100001").reg(1, 0x40000000).go().dueReg(1, 0).dueCondition(3);
        new Rig("8B100001").reg(1, 0xBFFFFFFF).go().dueReg(1, 0xFFFFFFFE).dueCondition(3);
        new Rig("8B100001").reg(1, 0xC0000000).go().dueReg(1, MIN).dueCondition(1);
        new Rig("8B100002").reg(1, 0x40000000).go().dueReg(1, 0).dueCondition(3);
        new Rig("8B10003F").reg(1, 0).condition(3).go().dueReg(1, 0).dueCondition(0);
        new Rig("8B10001E").reg(1, 1).go().dueReg(1, 0x40000000).dueCondition(2);
        new Rig("8B10001F").reg(1, 1).go().dueReg(1, 0).dueCondition(3);
        new Rig("8B100000").reg(1, MIN).go().dueReg(1, MIN).dueCondition(1);
        new Rig("8B100001").reg(1, MIN).go().dueReg(1, MIN).dueCondition(3);
        new Rig("8F200001").reg(2, 0x3FFFFFFF).reg(3, -1).go().dueReg(2, MAX).dueReg(3, -2).dueCondition(2);
        new Rig("8F200001").reg(2, 0x40000000).reg(3, 0).go().dueReg(2, 0).dueReg(3, 0).dueCondition(3);
        new Rig("8F200001").reg(2, 0xC0000000).reg(3, 0).go().dueReg(2, MIN).dueReg(3, 0).dueCondition(1);
        new Rig("8F200001").reg(2, 0xBFFFFFFF).reg(3, -1).go().dueReg(2, -1).dueReg(3, -2).dueCondition(3);
        new Rig("8F20003F").reg(2, -1).reg(3, -1).go().dueReg(2, MIN).dueReg(3, 0).dueCondition(1);
        new Rig("8F20003E").reg(2, 0).reg(3, 1).go().dueReg(2, 0x40000000).dueReg(3, 0).dueCondition(2);
        new Rig("8F20003F").reg(2, 0).reg(3, 1).go().dueReg(2, 0).dueReg(3, 0).dueCondition(3);
    }

    private static void takenBeforeRChanges() {
        Rig.part("where to, and s and t, are taken before r changes");
        new Rig("0522").reg(2, 0x1234).go().dueReg(2, 0x40000802).dueAddress(0x1234);
        new Rig("4520200C").reg(2, 0x1000).go().dueReg(2, 0x80000804).dueAddress(0x100C);
        new Rig("4522000C").reg(2, 0x1000).go().dueReg(2, 0x80000804).dueAddress(0x100C);
        new Rig("0622").reg(2, 0x1234).go().dueReg(2, 0x1233).dueAddress(0x1234);
        new Rig("4620200C").reg(2, 0x1000).go().dueReg(2, 0xFFF).dueAddress(0x100C);
        new Rig("4622000C").reg(2, 0x1000).go().dueReg(2, 0xFFF).dueAddress(0x100C);
        new Rig("8624200C").reg(2, 0x1000).reg(4, 1).reg(5, 0).go().dueReg(2, 0x1001).dueAddress(0x100C);
        new Rig("8644C00C").reg(4, 5).reg(5, 9).go().dueReg(4, 10).dueAddress(0x100C);
        new Rig("8654C00C").reg(4, 5).reg(5, 9).go().dueReg(5, 14).dueAddress(0x100C);
        new Rig("8754C00C").reg(4, 5).reg(5, 9).go().dueReg(5, 14).dueAddress(Rig.CODE + 4);
        new Rig("8655C00C").reg(5, 9).go().dueReg(5, 18).dueAddress(0x100C);
        new Rig("8755C00C").reg(5, 9).go().dueReg(5, 18).dueAddress(Rig.CODE + 4);
        new Rig("8755C00C").reg(5, -9).go().dueReg(5, -18).dueAddress(0x100C);
    }

    private static void ifNotNumber0() {
        Rig.part("05, 06, 07: on at s (if not number 0)");
        new Rig("0510").reg(0, 0x1234).go().dueReg(1, 0x40000802).dueAddress(Rig.CODE + 2);
        new Rig("0500").reg(0, 0x1234).go().dueReg(0, 0x40000802).dueAddress(Rig.CODE + 2);
        new Rig("0610").reg(1, 5).reg(0, 0x1234).go().dueReg(1, 4).dueAddress(Rig.CODE + 2);
        new Rig("0600").reg(0, 0x1234).go().dueReg(0, 0x1233).dueAddress(Rig.CODE + 2);
        new Rig("07F0").reg(0, 0x1234).go().dueAddress(Rig.CODE + 2);
        Rig.part("45, 46, 47: or a, which may be 0");
        new Rig("45100000").reg(0, 0x1234).go().dueAddress(0);
        new Rig("46100000").reg(0, 0x1234).reg(1, 5).go().dueAddress(0);
        new Rig("47F00000").reg(0, 0x1234).go().dueAddress(0);
        Rig.part("r may be number 0");
        new Rig("0602").reg(0, 5).reg(2, 0x1234).go().dueReg(0, 4).dueAddress(0x1234);
        new Rig("8602C004").reg(0, 5).reg(2, 1).reg(3, 5).go().dueReg(0, 6).dueAddress(0x1004);
    }

    private static void countsAndIndices() {
        Rig.part("06, 46: r is 1 less; if it isn't 0 then");
        int[][] rows = {{2, 1}, {1, 0}, {0, -1}, {-1, -2}, {MIN, MAX}, {MIN + 1, MIN}};
        for (int[] row : rows) {
            new Rig("0612").reg(1, row[0]).reg(2, 0x1004).status(0, 0x0F).go().dueReg(1, row[1])
                .dueAddress(row[1] == 0 ? Rig.CODE + 2 : 0x1004).dueFault(0);
            new Rig("4610C004").reg(1, row[0]).status(0, 0x0F).go().dueReg(1, row[1])
                .dueAddress(row[1] == 0 ? Rig.CODE + 4 : 0x1004).dueFault(0);
        }
        Rig.part("86 if it is greater than t, 87 if it is not greater");
        int[][] sums = {{1, 1, 2, 0}, {1, 1, 1, 1}, {1, 1, 3, 0}, {MAX, 1, MIN, 0}, {MAX, 1, MAX, 0}, {MIN, -1, 0, 1},
            {-1, 0, 0, 0}, {0, 0, -1, 1}};
        for (int[] row : sums) {
            boolean greater = row[3] == 1;
            new Rig("8624C004").reg(2, row[0]).reg(4, row[1]).reg(5, row[2]).status(0, 0x0F).go()
                .dueReg(2, row[0] + row[1]).dueAddress(greater ? 0x1004 : Rig.CODE + 4).dueFault(0);
            new Rig("8724C004").reg(2, row[0]).reg(4, row[1]).reg(5, row[2]).status(0, 0x0F).go()
                .dueReg(2, row[0] + row[1]).dueAddress(greater ? Rig.CODE + 4 : 0x1004).dueFault(0);
        }
        Rig.part("t is s, if that is an odd number, else s + 1");
        new Rig("862EC004").reg(2, 1).reg(14, 1).reg(15, 1).go().dueAddress(0x1004);
        new Rig("862FC004").reg(2, 0).reg(15, 1).reg(0, -5).go().dueReg(2, 1).dueAddress(Rig.CODE + 4);
        new Rig("8620C004").reg(2, 0).reg(0, 1).reg(1, 0).go().dueReg(2, 1).dueAddress(0x1004);
    }

    private static void joinedByte() {
        Rig.part("44: its second byte, with r's last byte or to it, if r is not number 0");
        new Rig("4410C000").data("92F0D000").reg(1, 0xFFFFFF0F).go().dueMemory(Rig.MORE, "FF").dueData("92F0D000");
        new Rig("4410C000").data("92F0D000").reg(1, 0xFFFFFF00).go().dueMemory(Rig.MORE, "F0");
        new Rig("4410C000").data("9200D000").reg(1, 0x12345680).go().dueMemory(Rig.MORE, "80");
        new Rig("4410C000").data("92FFD000").reg(1, 0x55).go().dueMemory(Rig.MORE, "FF");
        new Rig("4400C000").data("92F0D000").reg(0, 0x0F).go().dueMemory(Rig.MORE, "F0");
        new Rig("44F0C000").data("92F0D000").reg(15, 0x0F).go().dueMemory(Rig.MORE, "FF");
        Rig.part("44: r's last byte alone");
        new Rig("4410C000").data("9100D000").more("0F").reg(1, 0xFFFFFF0F).go().dueCondition(3);
        new Rig("4410C000").data("9500D000").more("0F").reg(1, 0x7FFFFF0F).go().dueCondition(0);
        new Rig("4410C000").data("D200D000C004FF").reg(1, 0x12345601).go().dueMemory(Rig.MORE, "C00400").dueFault(0);
        new Rig("4410C000").data("F900D000C010").more("001C").bytes(0x1010, "001C").reg(1, 0x12345611).go().dueCondition(0);
        Rig svc = new Rig("4410C000").data("0A50").reg(1, 0xFFFFFF0F).go();
        Rig.due("SVC", svc.core.read(32, 8), 0x0000005F80000804L);
        Rig.part("44: 3 what 0x44 would do is 0x44");
        new Rig("44100800").go().dueOld(3, 2, 0, Rig.CODE + 4);
        new Rig("4400C000").data("4400C004").bytes(0x1004, "1812").reg(2, 5).go().dueReg(1, 0).dueOld(3, 2, 0, Rig.CODE + 4);
        Rig.part("44: length and address are those of 0x44");
        Rig.due("two bytes", new Rig("4400C000").data("1800").go().core.status(), 0x80000804L);
        Rig.due("six bytes", new Rig("4400C000").data("D20001000100").go().core.status(), 0x80000804L);
        new Rig("4400C000").data("0600").reg(0, 5).go().dueAddress(Rig.CODE + 4);
        new Rig("4400C000").data("47F00444").go().dueAddress(0x444);
        new Rig("4400C000").data("1A12").reg(1, MAX).reg(2, 1).status(0, 0x08).go().dueOld(8, 2, 3, Rig.CODE + 4);
        new Rig("4400C000").data("FD00C000D000").go().dueOld(6, 2, 0, Rig.CODE + 4);
        new Rig("4400C000").data("0000").go().dueOld(1, 2, 0, Rig.CODE + 4);
        new Rig("4400C000").data("8200D000").status(0x00010000, 0).go().dueOld(2, 2, 0, Rig.CODE + 4);
    }

    private static void keysOfBlocks() {
        Rig.part("08: r's bits 24 to 28; 09: back, bits 29 to 31 become 0");
        int[] addresses = {0, 0x7F0, 0x800, 0xFF0, 0x1000, 0x17F0, 0x1800, 0x1FF0};
        for (int address : addresses) {
            for (int key = 0; key < 32; key += 31) {
                Rig set = new Rig("0812").reg(1, 0xFFFFFF07 | key << 3).reg(2, 0xFF000000 | address);
                set.blockKey(address / 2048, 21).go().dueFault(0);
                Rig get = new Rig("0912").reg(1, 0x12345607).reg(2, 0xFF000000 | address).blockKey(address / 2048, key).go();
                get.dueReg(1, 0x12345600 | key << 3).dueFault(0);
                for (int block = 0; block < 4; block++) {
                    Rig.due("key", set.core.key(block, 0), block == address / 2048 ? key : 0);
                    Rig.due("key", get.core.key(block, 0), block == address / 2048 ? key : 0);
                }
            }
        }
        Rig.part("08, 09: 6, if bits 28 to 31 of s are not 0; 5, if it is 8192 or more");
        for (int bit = 0; bit < 24; bit++) {
            int due = bit < 4 ? 6 : bit < 13 ? 0 : 5;
            new Rig("0812").reg(2, 1 << bit).go().dueFault(due);
            new Rig("0912").reg(2, 1 << bit).go().dueFault(due);
        }
    }

    private static void bitsThatIHas() {
        Rig.part("91: condition 0, if they are all 0, or i is; 3, if all are 1; else 1");
        int[] masks = {0x00, 0x01, 0x80, 0x81, 0xFF};
        int[] bytes = {0x00, 0x01, 0x7E, 0x7F, 0x80, 0xFE, 0xFF};
        for (int i : masks) {
            for (int v : bytes) {
                int due = (v & i) == 0 ? 0 : (v & i) == i ? 3 : 1;
                new Rig(String.format("91%02XC000", i)).data(String.format("%02X", v)).condition(2).go().dueCondition(due)
                    .dueData(String.format("%02X", v));
            }
        }
        Rig.part("95: compared with i, without signs");
        for (int i : masks) {
            for (int v : bytes) {
                int due = v == i ? 0 : v < i ? 1 : 2;
                new Rig(String.format("95%02XC000", i)).data(String.format("%02X", v)).condition(3).go().dueCondition(due)
                    .dueData(String.format("%02X", v));
            }
        }
    }

    private static void firstBit() {
        Rig.part("93: condition by its first bit, then it is 255");
        int[] bytes = {0x00, 0x01, 0x40, 0x7F, 0x80, 0xFF};
        for (int v : bytes) {
            new Rig("9300C001").data(String.format("11%02X11", v)).condition(3).go().dueCondition(v >> 7).dueData("11FF11");
        }
    }

    private static Rig rows(String operation, int i, int a, int b) {
        Rig rig = new Rig(String.format("%s%02XC000D000", operation, i));
        for (int k = 0; k < 320; k += 8) {
            rig.core.write(Rig.DATA + k, 0x0101010101010101L * a, 8);
            rig.core.write(Rig.MORE + k, 0x0101010101010101L * b, 8);
        }
        return rig;
    }

    private static void longestStrings() {
        String[] operations = {"D1", "D2", "D3", "D4", "D6", "D7"};
        int[] dues = {0xA5, 0x35, 0x3C, 0x24, 0xBD, 0x99};
        for (int k = 0; k < 6; k++) {
            Rig.part(operations[k] + ": with i + 1 bytes");
            String due = String.format("%02X", dues[k]);
            rows(operations[k], 255, 0xAC, 0x35).go().dueData(due).dueMemory(Rig.DATA + 254, due + due + "ACAC");
            rows(operations[k], 0, 0xAC, 0x35).go().dueData(due + "ACAC").dueMemory(Rig.DATA + 255, "AC");
            rows(operations[k], 1, 0xAC, 0x35).go().dueData(due + due + "AC");
        }
        Rig.part("D4, D6, D7 by bits: 0 all are 0, else 1");
        rows("D4", 255, 0xF0, 0x0F).condition(3).go().dueCondition(0);
        rows("D4", 255, 0xF0, 0x0F).bytes(Rig.DATA + 255, "01").go().dueCondition(1);
        rows("D4", 254, 0xF0, 0x0F).bytes(Rig.DATA + 255, "01").condition(2).go().dueCondition(0);
        rows("D4", 255, 0xF0, 0x0F).bytes(Rig.DATA, "01").go().dueCondition(1);
        rows("D6", 255, 0, 0).bytes(Rig.MORE + 255, "80").go().dueCondition(1);
        rows("D6", 255, 0, 0).bytes(Rig.MORE + 256, "80").condition(2).go().dueCondition(0);
        rows("D7", 255, 7, 7).bytes(Rig.MORE, "80").go().dueCondition(1);
        rows("D7", 255, 7, 7).bytes(Rig.DATA + 256, "80").condition(2).go().dueCondition(0);
        Rig.part("DC: with 256 bytes, and all of a table");
        Rig all = new Rig("DCFFC000D000");
        for (int k = 0; k < 256; k += 8) {
            long v = 0x0001020304050607L + 0x0101010101010101L * k;
            all.core.write(Rig.DATA + k, v, 8);
            all.core.write(Rig.MORE + k, ~v, 8);
        }
        all.bytes(Rig.DATA + 256, "01").go();
        for (int k = 0; k < 256; k += 15) {
            all.dueMemory(Rig.DATA + k, String.format("%02X", 255 - k));
        }
        all.dueMemory(Rig.DATA + 256, "01");
    }

    private static void upToTheFirstThatDiffer() {
        Rig.part("D5: compared, without signs, up to the first that differ");
        rows("D5", 255, 7, 7).condition(3).go().dueCondition(0);
        rows("D5", 255, 7, 7).bytes(Rig.DATA + 256, "08").condition(3).go().dueCondition(0);
        rows("D5", 255, 7, 7).bytes(Rig.DATA + 255, "08").condition(3).go().dueCondition(2);
        rows("D5", 255, 7, 7).bytes(Rig.MORE + 255, "80").condition(3).go().dueCondition(1);
        rows("D5", 254, 7, 7).bytes(Rig.MORE + 255, "80").condition(3).go().dueCondition(0);
        rows("D5", 255, 7, 7).bytes(Rig.DATA + 1, "08").bytes(Rig.MORE + 2, "09").condition(3).go().dueCondition(2);
        rows("D5", 0, 7, 7).bytes(Rig.DATA + 1, "08").condition(3).go().dueCondition(0);
    }

    private static void lastOneOrElse() {
        Rig.part("DD: condition 0, if there is none, 2 if it was the last one, else 1");
        rows("DD", 255, 7, 0).reg(1, -1).reg(2, -1).condition(3).go().dueCondition(0).dueReg(1, -1).dueReg(2, -1);
        rows("DD", 255, 7, 0).bytes(Rig.DATA + 255, "08").bytes(Rig.MORE + 8, "99").reg(1, -1).reg(2, -1).go()
            .dueCondition(2).dueReg(1, 0xFF0010FF).dueReg(2, 0xFFFFFF99);
        rows("DD", 255, 7, 0).bytes(Rig.DATA + 254, "08").bytes(Rig.MORE + 8, "99").reg(1, -1).reg(2, -1).go()
            .dueCondition(1).dueReg(1, 0xFF0010FE).dueReg(2, 0xFFFFFF99);
        rows("DD", 254, 7, 0).bytes(Rig.DATA + 255, "08").bytes(Rig.MORE + 8, "99").condition(3).go().dueCondition(0);
        rows("DD", 255, 255, 0).bytes(Rig.MORE + 255, "01").reg(1, 0).go().dueCondition(1).dueReg(1, 0x1000).dueReg(2, 1);
        rows("DD", 0, 0, 0).bytes(Rig.MORE, "FF").go().dueCondition(2).dueReg(1, 0x1000).dueReg(2, 0xFF);
    }

    /** OLD alone changes, and NEW becomes the status as it stands there. */
    private static void oldAndNew() {
        String[] kinds = {"program", "SVC", "external"};
        int[] olds = {40, 32, 24};
        int[] news = {104, 96, 88};
        for (int kind = 0; kind < 3; kind++) {
            Rig.part("the status goes to the double at OLD, the double at NEW becomes the status: " + kinds[kind]);
            Rig rig = new Rig(kind == 1 ? "0AFF" : "FFFF");
            for (int k = 0; k < 128; k += 8) {
                rig.core.write(k, 0x1110101010101010L + k, 8);
            }
            rig.core.want(kind == 2 ? 0xFF : 0);
            rig.core.load(0xA5312222FA000800L & (kind == 2 ? -1L : ~MASK));
            rig.go();
            for (int k = 0; k < 128; k += 8) {
                if (k != olds[kind]) {
                    Rig.due("double at " + k, rig.core.read(k, 8), 0x1110101010101010L + k);
                }
            }
            long[] dues = {0xA4310001FA000806L, 0xA43100FF7A000802L, 0xA53100FF3A000800L};
            Rig.due("OLD", rig.core.read(olds[kind], 8), dues[kind]);
            Rig.due("status", rig.core.status(), 0x1110101010101010L + news[kind] & 0xFFF3FFFFFFFFFFFFL);
            for (int what = 0; what < 3; what++) {
                Rig.due("told " + what, rig.core.told(what), what == kind ? 1 : 0);
            }
        }
    }

    private static void addressBehind() {
        Rig.part("behind an instruction with exceptions 1 to 7, 9, 11 the address is that behind it, too");
        new Rig("0000").go().dueOld(1, 1, 0, Rig.CODE + 2);
        new Rig("8000C000").status(0x00010000, 0).go().dueOld(2, 2, 0, Rig.CODE + 4);
        new Rig("4400C000").data("4400").go().dueOld(3, 2, 0, Rig.CODE + 4);
        new Rig("D200C000D000").blockKey(2, 0x10).status(0x00200000, 0).go().dueOld(4, 3, 0, Rig.CODE + 6);
        new Rig("D200A000D000").go().dueOld(5, 3, 0, Rig.CODE + 6);
        new Rig("1C12").go().dueOld(6, 1, 0, Rig.CODE + 2);
        new Rig("F900C000D000").go().dueOld(7, 3, 0, Rig.CODE + 6);
        new Rig("1D24").reg(4, 0).go().dueOld(9, 1, 0, Rig.CODE + 2);
        new Rig("FD10C000D000").data("000C").more("0C").go().dueOld(11, 3, 0, Rig.CODE + 6);
    }

    private static Rig placed(int address, String code) {
        Rig rig = new Rig("").bytes(address & 0x1FFF, code);
        rig.core.load(0xC0000000L | address);
        return rig;
    }

    private static void lengthsInOldStatus() {
        Rig.part("length 0, and the address that of it, if its first two bytes cannot be taken, or it is odd");
        placed(0x2000, "").go().dueOld(5, 0, 0, 0x2000);
        placed(0x1FFF, "FF").go().dueOld(5, 0, 0, 0x1FFF);
        placed(0xFFFFFE, "").go().dueOld(5, 0, 0, 0xFFFFFE);
        placed(0x801, "FFFF").go().dueOld(6, 0, 0, 0x801);
        placed(0x1FFD, "1812").go().dueOld(6, 0, 0, 0x1FFD);
        Rig shut = new Rig("1812").blockKey(1, 0x11);
        shut.core.load(0x00200000C0000800L);
        shut.go().dueOld(4, 0, 0, 0x800);
        Rig.part("length of the instruction, if its first two bytes can be taken");
        placed(0x1FFE, "4110").go().dueOld(5, 2, 0, 0x2002);
        placed(0x1FFE, "FA00").go().dueOld(5, 3, 0, 0x2004);
        placed(0x1FFC, "FA000000").go().dueOld(5, 3, 0, 0x2002);
        Rig.part("length 0 with external ones");
        for (long length = 0; length < 4; length++) {
            Rig rig = new Rig("1812");
            rig.core.load(MASK | length << 30 | 0x800);
            rig.core.want(1);
            rig.go();
            Rig.due("old", rig.core.read(24, 8), MASK | 1L << 32 | 0x800);
        }
    }

    private static void externalsAtOnce() {
        Rig.part("external: if bit 7 of the system mask is 1, all that are wanted, at once (they are wanted no more then)");
        for (int bit = 0; bit < 8; bit++) {
            Rig rig = new Rig("1812").reg(2, 5);
            rig.core.load(1L << 63 - bit | 0x800);
            rig.core.want(0x81);
            rig.core.want(0x42);
            rig.go();
            Rig.due("told", rig.core.told(2), bit == 7 ? 1 : 0);
            rig.dueReg(1, bit == 7 ? 0 : 5);
            Rig.due("code", rig.core.read(26, 2), bit == 7 ? 0xC3 : 0);
            rig.core.load(MASK | 0x800);
            rig.go();
            Rig.due("told", rig.core.told(2), 1);
            Rig.due("code", rig.core.read(26, 2), 0xC3);
            rig.dueReg(1, 5);
        }
    }

    private static void externalBehindAnother() {
        Rig.part("before an instruction an external one comes, if it may");
        Rig rig = new Rig("0A05");
        rig.core.want(9);
        rig.core.write(96, MASK | 0x1000, 8);
        rig.core.write(88, MASK | WAIT | 0x1800, 8);
        rig.core.load(0x800);
        Rig.due("step", rig.core.step(9), 2);
        Rig.due("old status of the external one", rig.core.read(24, 8), MASK | 9L << 32 | 0x1000);
        Rig.due("status", rig.core.status(), MASK | WAIT | 0x1800);
        Rig.part("else, if the status has WAIT, the machine waits");
        Rig waiting = new Rig("1812").reg(2, 5);
        waiting.core.load(MASK | WAIT | 0x800);
        Rig.due("step", waiting.core.step(9), 0);
        Rig.due("status", waiting.core.status(), MASK | WAIT | 0x800);
        waiting.dueReg(1, 0);
    }
}
