/** Promise 11: 10 to 1F, 40 to 43, 48 to 4C, 50 to 5F, 90 and 98. */
public final class WordsTest {
    private static final int MIN = Integer.MIN_VALUE;
    private static final int MAX = Integer.MAX_VALUE;
    private static final int BEFORE = 0x12345678;

    public static void main(String[] args) {
        signs();
        sums();
        sumsWithoutSigns();
        comparisons();
        bits();
        products();
        quotients();
        loads();
        stores();
        many();
        addresses();
        Rig.end();
    }

    /** A register operation on x and y, and the same with a word where there is one. */
    private static void both(int kind, int x, int y, int due, int condition) {
        Rig.part(String.format("1%X %x %x", kind, x, y));
        new Rig(String.format("1%X12", kind)).reg(1, x).reg(2, y).condition(3 - condition).go()
            .dueReg(1, due).dueReg(2, y).dueCondition(condition).dueAddress(Rig.CODE + 2);
        Rig.part(String.format("5%X %x %x", kind, x, y));
        new Rig(String.format("5%X10C004", kind)).reg(1, x).data(String.format("FFFFFFFF%08XFF", y))
            .condition(3 - condition).go().dueReg(1, due).dueCondition(condition).dueAddress(Rig.CODE + 4);
    }

    private static void half(int kind, int x, int y, int due, int condition) {
        Rig.part(String.format("4%X %x %x", kind, x, y));
        new Rig(String.format("4%X10C002", kind)).reg(1, x).data(String.format("0000%04X5555", y & 0xFFFF))
            .condition(3 - condition).go().dueReg(1, due).dueCondition(condition);
    }

    private static void sign(int kind, int y, int due, int condition) {
        Rig.part(String.format("1%X %x", kind, y));
        new Rig(String.format("1%X12", kind)).reg(1, BEFORE).reg(2, y).condition(3 - condition).go()
            .dueReg(1, due).dueCondition(condition);
        new Rig(String.format("1%X11", kind)).reg(1, y).go().dueReg(1, due).dueCondition(condition);
    }

    private static void signs() {
        int[] numbers = {0, 1, -1, MAX, -MAX};
        for (int v : numbers) {
            int condition = Integer.signum(v) == 0 ? 0 : v < 0 ? 1 : 2;
            int turned = condition == 0 ? 0 : 3 - condition;
            sign(2, v, v, condition);
            sign(3, v, -v, turned);
            sign(0, v, v < 0 ? -v : v, condition == 0 ? 0 : 2);
            sign(1, v, v < 0 ? v : -v, condition == 0 ? 0 : 1);
        }
        sign(2, MIN, MIN, 1);
        sign(3, MIN, MIN, 3);
        sign(0, MIN, MIN, 3);
        sign(1, MIN, MIN, 1);
        Rig.part("overflow with the mask");
        new Rig("1312").reg(1, 5).reg(2, MIN).status(0, 0x08).go().dueReg(1, MIN).dueOld(8, 1, 3, Rig.CODE + 2);
        new Rig("1012").reg(1, 5).reg(2, MIN).status(0, 0x08).go().dueReg(1, MIN).dueOld(8, 1, 3, Rig.CODE + 2);
        new Rig("1312").reg(1, 5).reg(2, MIN).status(0, 0x07).go().dueReg(1, MIN).dueCondition(3);
        new Rig("1112").reg(1, 5).reg(2, MIN).status(0, 0x08).go().dueReg(1, MIN).dueCondition(1);
    }

    private static void sums() {
        both(0xA, 1, 2, 3, 2);
        both(0xA, 1, -1, 0, 0);
        both(0xA, -5, 2, -3, 1);
        both(0xA, MAX, 1, MIN, 3);
        both(0xA, MIN, -1, MAX, 3);
        both(0xA, MIN, MIN, 0, 3);
        both(0xB, 1, 2, -1, 1);
        both(0xB, 7, 7, 0, 0);
        both(0xB, 7, 2, 5, 2);
        both(0xB, MIN, 1, MAX, 3);
        both(0xB, 0, MIN, MIN, 3);
        both(0xB, -1, MIN, MAX, 2);
        half(0xA, 1, 0x7FFF, 0x8000, 2);
        half(0xA, 1, -1, 0, 0);
        half(0xA, MIN, -1, MAX, 3);
        half(0xB, 1, -0x8000, 0x8001, 2);
        half(0xB, MIN, 1, MAX, 3);
        half(0xB, 0, 1, -1, 1);
        Rig.part("sum of a register and itself");
        new Rig("1A11").reg(1, 21).go().dueReg(1, 42).dueCondition(2);
        Rig.part("overflow with the mask");
        new Rig("5A10C000").reg(1, MAX).data("00000001").status(0, 0x0F).go().dueReg(1, MIN)
            .dueOld(8, 2, 3, Rig.CODE + 4);
        new Rig("4B10C000").reg(1, MIN).data("0001").status(0, 0x08).go().dueReg(1, MAX).dueOld(8, 2, 3, Rig.CODE + 4);
    }

    private static void sumsWithoutSigns() {
        both(0xE, 0, 0, 0, 0);
        both(0xE, 1, 2, 3, 1);
        both(0xE, MAX, 1, MIN, 1);
        both(0xE, -1, 1, 0, 2);
        both(0xE, -1, 2, 1, 3);
        both(0xF, 5, 5, 0, 2);
        both(0xF, 5, 4, 1, 3);
        both(0xF, 4, 5, -1, 1);
        both(0xF, 0, 0, 0, 2);
        both(0xF, MIN, 1, MAX, 3);
        both(0xF, 1, MIN, MIN + 1, 1);
        Rig.part("no overflow without signs");
        new Rig("1E12").reg(1, MAX).reg(2, 1).status(0, 0x0F).go().dueReg(1, MIN).dueCondition(1);
    }

    private static void comparisons() {
        both(0x9, -1, 1, -1, 1);
        both(0x9, 1, -1, 1, 2);
        both(0x9, 7, 7, 7, 0);
        both(0x9, MIN, MAX, MIN, 1);
        both(0x5, -1, 1, -1, 2);
        both(0x5, 1, -1, 1, 1);
        both(0x5, 7, 7, 7, 0);
        half(0x9, -2, -1, -2, 1);
        half(0x9, -0x8000, -0x8000, -0x8000, 0);
        half(0x9, 0x8000, -0x8000, 0x8000, 2);
    }

    private static void bits() {
        both(0x4, 0x0FF0, 0x00FF, 0x00F0, 1);
        both(0x4, 0x0F, 0xF0, 0, 0);
        both(0x6, 0x0F, 0xF0, 0xFF, 1);
        both(0x6, 0, 0, 0, 0);
        both(0x7, -1, 1, -2, 1);
        both(0x7, 77, 77, 0, 0);
    }

    private static void products() {
        long[][] factors = {{3, -7}, {MIN, MIN}, {MAX, MIN}, {-1, -1}, {0, 5}};
        for (long[] f : factors) {
            long product = f[0] * f[1];
            Rig.part("1C, 5C " + f[0] + " " + f[1]);
            new Rig("1C46").reg(4, BEFORE).reg(5, (int) f[0]).reg(6, (int) f[1]).condition(2).go()
                .dueReg(4, (int) (product >> 32)).dueReg(5, (int) product).dueCondition(2);
            new Rig("5C40C000").reg(4, BEFORE).reg(5, (int) f[0]).data(String.format("%08X", (int) f[1]))
                .condition(1).go().dueReg(4, (int) (product >> 32)).dueReg(5, (int) product).dueCondition(1);
            new Rig("4C40C000").reg(4, (int) f[0]).data(String.format("%04X", f[1] & 0xFFFF)).condition(3).go()
                .dueReg(4, (int) f[0] * (short) f[1]).dueCondition(3);
        }
        Rig.part("factors among the pair");
        new Rig("1C44").reg(4, 100).reg(5, 3).go().dueReg(4, 0).dueReg(5, 300);
        new Rig("1C45").reg(4, 100).reg(5, -3).go().dueReg(4, 0).dueReg(5, 9);
        new Rig("1CE2").reg(14, 1).reg(15, 6).reg(2, 7).go().dueReg(14, 0).dueReg(15, 42);
        Rig.part("odd registers");
        new Rig("1C56").reg(5, 1).reg(6, 2).go().dueReg(5, 1).dueReg(6, 2).dueOld(6, 1, 0, Rig.CODE + 2);
        new Rig("5C50C000").go().dueOld(6, 2, 0, Rig.CODE + 4);
        new Rig("5C50A000").go().dueFault(5);
    }

    private static void quotients() {
        quotient(17, 5, 3, 2);
        quotient(-17, 5, -3, -2);
        quotient(17, -5, -3, 2);
        quotient(-17, -5, 3, -2);
        quotient(0, -5, 0, 0);
        quotient((long) MAX * MAX, MAX, MAX, 0);
        quotient((long) MIN * 7 - 3, 7, MIN, -3);
        quotient((long) MIN * -7 - 1, 7, MAX, 6);
        noQuotient(5, 0);
        noQuotient(0, 0);
        noQuotient(1L << 31, 1);
        noQuotient((1L << 31) * 3, 3);
        noQuotient(MIN, -1);
        noQuotient(Long.MIN_VALUE, -1);
        noQuotient(Long.MIN_VALUE, 1);
        noQuotient(Long.MAX_VALUE, MAX);
        Rig.part("odd registers");
        new Rig("1D56").reg(5, 1).reg(6, 0).go().dueFault(6);
        new Rig("5D50C000").go().dueFault(6);
        new Rig("5D50C002").go().dueFault(6);
        Rig.part("divisor among the pair");
        new Rig("1D45").reg(4, 0).reg(5, 9).go().dueReg(4, 0).dueReg(5, 1);
    }

    private static void quotient(long dividend, int divisor, int due, int rest) {
        Rig.part("1D, 5D " + dividend + " " + divisor);
        pair("1D46", dividend, divisor).condition(2).go().dueReg(4, rest).dueReg(5, due).dueCondition(2);
        pair("5D40C000", dividend, divisor).condition(1).go().dueReg(4, rest).dueReg(5, due).dueCondition(1);
    }

    private static void noQuotient(long dividend, int divisor) {
        Rig.part("1D, 5D " + dividend + " " + divisor);
        pair("1D46", dividend, divisor).condition(2).go().dueReg(4, (int) (dividend >> 32)).dueReg(5, (int) dividend)
            .dueOld(9, 1, 2, Rig.CODE + 2);
        pair("5D40C000", dividend, divisor).condition(2).go().dueReg(4, (int) (dividend >> 32))
            .dueReg(5, (int) dividend).dueOld(9, 2, 2, Rig.CODE + 4);
    }

    private static Rig pair(String code, long dividend, int divisor) {
        return new Rig(code).reg(4, (int) (dividend >> 32)).reg(5, (int) dividend).reg(6, divisor)
            .data(String.format("%08X", divisor));
    }

    private static void loads() {
        Rig.part("loads");
        new Rig("1812").reg(2, MIN).condition(3).go().dueReg(1, MIN).dueCondition(3);
        new Rig("5810C004").data("0000000081828384").condition(2).go().dueReg(1, 0x81828384).dueCondition(2);
        new Rig("4810C002").data("00008182").condition(2).go().dueReg(1, 0xFFFF8182).dueCondition(2);
        new Rig("4810C002").data("00007182").go().dueReg(1, 0x7182);
        new Rig("4310C003").data("000000F9").reg(1, BEFORE).condition(1).go().dueReg(1, 0x123456F9).dueCondition(1);
        new Rig("4110C003").reg(12, 0x81001000).condition(1).go().dueReg(1, 0x1003).dueCondition(1);
        new Rig("41100FFF").reg(0, 0x81001000).go().dueReg(1, 0xFFF);
        new Rig("4112C003").reg(12, 0x80FFFFFF).reg(2, 0x7F000001).go().dueReg(1, 3);
        new Rig("4112C003").reg(12, -1).reg(2, -1).go().dueReg(1, 1);
        new Rig("411CC003").go().dueReg(1, 0x2003);
        new Rig("4111100A").reg(1, 0x100).go().dueReg(1, 0x20A);
    }

    private static void stores() {
        Rig.part("stores");
        new Rig("5010C004").reg(1, BEFORE).condition(3).go().dueData("000000001234567800").dueCondition(3);
        new Rig("4010C002").reg(1, BEFORE).condition(3).go().dueData("0000567800").dueCondition(3);
        new Rig("4210C003").reg(1, BEFORE).condition(3).go().dueData("0000007800").dueCondition(3);
        new Rig("4212C003").reg(1, BEFORE).reg(2, 2).go().dueData("000000000078");
    }

    private static void many() {
        Rig.part("98 and 90");
        Rig rig = new Rig("98E1C004").data("FFFFFFFF00000001000000028000000300000004FFFFFFFF").reg(2, 9).reg(13, 8)
            .condition(2).go();
        rig.dueReg(14, 1).dueReg(15, 2).dueReg(0, 0x80000003).dueReg(1, 4).dueReg(2, 9).dueReg(13, 8).dueCondition(2);
        new Rig("9855C000").data("0000000700000008").reg(6, 5).go().dueReg(5, 7).dueReg(6, 5);
        new Rig("90E1C004").reg(14, 1).reg(15, 2).reg(0, MIN).reg(1, 4).reg(2, -1).condition(1).go()
            .dueData("000000000000000100000002800000000000000400000000").dueCondition(1);
        new Rig("9077C000").reg(7, -1).reg(8, -1).go().dueData("FFFFFFFF00000000");
        Rig.part("all sixteen");
        Rig all = new Rig("98A9C000");
        for (int k = 0; k < 16; k++) {
            all.bytes(Rig.DATA + 4 * k, String.format("%08X", 1000 + k));
        }
        all.go();
        for (int k = 0; k < 16; k++) {
            all.dueReg((10 + k) % 16, 1000 + k);
        }
        Rig.part("nothing of it, if a part cannot be");
        new Rig("9815B000").reg(1, -7).go().dueReg(1, -7).dueFault(5);
        new Rig("9815BFF0").reg(11, 0x1000).reg(1, -7).go().dueReg(1, -7).dueFault(5);
        new Rig("9014B000").go().dueMemory(0x1FF0, "00000000").dueFault(0);
        new Rig("9015B000").reg(1, -1).go().dueMemory(0x1FF0, "00000000").dueFault(5);
        new Rig("9815C002").go().dueFault(6);
        new Rig("9015C001").go().dueFault(6);
    }

    private static void addresses() {
        String[] halves = {"40", "48", "49", "4A", "4B", "4C"};
        String[] words = {"50", "54", "55", "56", "57", "58", "59", "5A", "5B", "5C", "5D", "5E", "5F"};
        for (String operation : halves) {
            Rig.part(operation);
            new Rig(operation + "20C001").go().dueOld(6, 2, 0, Rig.CODE + 4);
            new Rig(operation + "20A000").go().dueOld(5, 2, 0, Rig.CODE + 4);
            new Rig(operation + "20A001").go().dueFault(5);
            new Rig(operation + "20B00F").go().dueFault(5);
            new Rig(operation + "20B00E").go().dueFault(0);
        }
        for (String operation : words) {
            Rig.part(operation);
            new Rig(operation + "20C002").go().dueOld(6, 2, 0, Rig.CODE + 4);
            new Rig(operation + "20C001").go().dueFault(6);
            new Rig(operation + "20B00E").go().dueFault(5);
            new Rig(operation + "20A000").go().dueOld(5, 2, 0, Rig.CODE + 4);
            new Rig(operation + "20B00C").bytes(0x1FFC, "00000001").go().dueFault(0);
        }
        for (int operation = 0x40; operation < 0x60; operation++) {
            Rig.part(String.format("%02X", operation));
            boolean there = operation != 0x4D && (operation < 0x51 || operation > 0x53);
            boolean looks = there && operation != 0x41 && operation != 0x45 && operation != 0x46 && operation != 0x47;
            // Displacement and base alone lie in memory, and behind it with the index.
            Rig rig = new Rig(String.format("%02X42C000", operation)).reg(2, 0x1000).data("0000000C0000000C").go();
            Rig.due("index", rig.core.read(42, 2), looks ? 5 : there ? 0 : 1);
        }
        Rig.part("no index");
        new Rig("9142C000").reg(2, 0x1000).go().dueFault(0);
        new Rig("8942C001").reg(2, 1).reg(4, 3).go().dueReg(4, 6);
        new Rig("9024C000").reg(4, 0x1000).go().dueFault(0);
        Rig.part("42, 43");
        new Rig("4220A000").go().dueFault(5);
        new Rig("4320A000").go().dueFault(5);
        new Rig("4220B00F").reg(2, 5).go().dueMemory(0x1FFF, "05").dueFault(0);
        new Rig("4320C000").reg(12, -1).go().dueFault(5);
        Rig.part("41 looks at no byte");
        new Rig("4120AFFF").go().dueReg(2, 0x2FFF).dueFault(0);
    }
}
