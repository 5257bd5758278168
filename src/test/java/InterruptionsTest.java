/** Promise 11: taking instructions, exceptions in their order, keys, interruptions and waiting. */
public final class InterruptionsTest {
    private static final long WAIT = 1L << 49;
    private static final long MASK = 1L << 56;

    public static void main(String[] args) {
        taking();
        lengths();
        protectedBytes();
        protectedInstructions();
        leastOneCounts();
        nothingElse();
        externals();
        steps();
        newStatus();
        Rig.end();
    }

    private static Rig at(int address, String code) {
        Rig rig = new Rig("").bytes(address & 0x1FFF, code);
        rig.core.load(0x30000000L | address);
        return rig;
    }

    private static void taking() {
        Rig.part("taking");
        at(0x2000, "").go().dueOld(5, 0, 3, 0x2000);
        at(0x2001, "").go().dueOld(5, 0, 3, 0x2001);
        at(0x801, "1812").go().dueOld(6, 0, 3, 0x801);
        at(0x1FFF, "18").go().dueOld(5, 0, 3, 0x1FFF);
        at(0xFFFFFE, "").go().dueOld(5, 0, 3, 0xFFFFFE);
        at(0xFFFFFF, "").go().dueOld(5, 0, 3, 0xFFFFFF);
        at(0x1FFE, "1812").reg(2, 7).go().dueReg(1, 7).dueAddress(0x2000).dueFault(0);
        at(0x1FFE, "4110").go().dueOld(5, 2, 3, 0x2002);
        at(0x1FFE, "D200").go().dueOld(5, 3, 3, 0x2004);
        at(0x1FFC, "D2000000").go().dueOld(5, 3, 3, 0x2002);
        at(0x1FFE, "FF00").go().dueOld(5, 3, 3, 0x2004);
        at(0x1FFC, "41100123").go().dueReg(1, 0x123).dueAddress(0x2000).dueFault(0);
        Rig.part("the length that was there doesn't count");
        Rig rig = new Rig("");
        rig.core.load(0xF0000801L);
        rig.go().dueOld(6, 0, 3, 0x801);
    }

    private static void lengths() {
        Rig.part("lengths");
        Rig.due("two", new Rig("1812").go().core.status(), 0x40000802L);
        Rig.due("four", new Rig("41100000").go().core.status(), 0x80000804L);
        Rig.due("four", new Rig("92000100").go().core.status(), 0x80000804L);
        Rig.due("six", new Rig("D20001000200").go().core.status(), 0xC0000806L);
        Rig.due("the code stays", new Rig("1812").status(0x0000ABCD, 0).go().core.status(), 0x0000ABCD40000802L);
    }

    /** Block 2 with a key, the status with another, the same, or none. */
    private static void protectedBytes() {
        String[] reading = {"5810C000", "4810C000", "4910C000", "4A10C000", "4B10C000", "4C10C000", "4310C000",
            "5410C000", "5610C000", "5710C000", "5910C000", "5A10C000", "5B10C000", "5C20C000", "5D20C000", "5E10C000",
            "5F10C000", "8000C000", "8200C000", "9122C000", "9522C000", "9811C000", "5510C000",
            "D500C000D000", "D500D000C000", "D200D000C000", "DC00D000C000", "DD00C000D000", "DD00D000C000",
            "F100D000C000", "F200D000C000", "F300D000C000", "F900C000D000", "F900D000C000", "FA00D000C000",
            "F800D000C000", "FB00D000C000", "FC10D000C000", "FD10D000C000", "4F10C000", "DE01D000C000"};
        String[] writing = {"5010C000", "4010C000", "4210C000", "9200C000", "9300C000", "9400C000", "9600C000",
            "9700C000", "9011C000", "D100C000D000", "D200C000D000", "D300C000D000", "D400C000D000", "D600C000D000",
            "D700C000D000", "DC00C000D000", "DE00C000D000", "DF00C000D000", "F100C000D000", "F200C000D000",
            "F300C000D000", "F800C000D000", "FA00C000D000", "FB00C000D000", "FC10C000D000", "FD10C000D000", "4E10C000"};
        for (String code : reading) {
            one(code, 0x10, 2, false);
            one(code, 0x11, 2, true);
            one(code, 0x01, 2, true);
            one(code, 0x05, 2, false);
            one(code, 0x11, 0, false);
            one(code, 0x1F, 15, false);
        }
        for (String code : writing) {
            one(code, 0x10, 2, true);
            one(code, 0x11, 2, true);
            one(code, 0x00, 2, true);
            one(code, 0x04, 2, false);
            one(code, 0x05, 2, false);
            one(code, 0x11, 0, false);
        }
    }

    private static void one(String code, int blockKey, int key, boolean refused) {
        Rig.part(code + " key " + blockKey + " status " + key);
        // Blocks 0, 1 and 3 have the key of the status.
        Rig rig = new Rig(code).blockKey(0, 2 * key).blockKey(1, 2 * key).blockKey(3, 2 * key).blockKey(2, blockKey)
            .data("1C1C1C1C1C1C1C1C").more("2020202020").reg(1, 5).status(key << 20, 0x20);
        int sum = rig.core.sum();
        rig.go();
        if (refused) {
            rig.dueOld(4, code.length() / 4, 2, Rig.CODE + code.length() / 2).dueData("1C1C1C1C1C1C1C1C");
            rig.core.write(40, 0, 8);
            Rig.due("sum", rig.core.sum(), sum);
        } else {
            Rig.due("exception 4", rig.core.read(42, 2) == 4, false);
        }
    }

    private static void protectedInstructions() {
        Rig.part("protected instructions");
        new Rig("1812").reg(2, 6).blockKey(1, 0x10).status(0x00200000, 0).go().dueReg(1, 6).dueFault(0);
        new Rig("1812").reg(2, 6).blockKey(1, 0x11).status(0x00200000, 0x30).go().dueReg(1, 0)
            .dueOld(4, 0, 3, Rig.CODE);
        new Rig("1812").reg(2, 6).blockKey(1, 0x11).status(0x00800000, 0).go().dueReg(1, 6).dueFault(0);
        new Rig("1812").reg(2, 6).blockKey(1, 0x11).status(0, 0).go().dueReg(1, 6).dueFault(0);
        Rig odd = new Rig("").blockKey(1, 0x11);
        odd.core.load(0x0020000000000801L);
        odd.go().dueOld(4, 0, 0, 0x801);
        Rig.part("an instruction that goes into another block");
        Rig four = new Rig("").bytes(0xFFE, "41100000").blockKey(2, 0x11);
        four.core.load(0x0020000000000FFEL);
        four.go().dueOld(4, 2, 0, 0x1002);
        Rig six = new Rig("").bytes(0xFFC, "D20000000000").blockKey(2, 0x11).blockKey(0, 4);
        six.core.load(0x0020000000000FFCL);
        six.go().dueOld(4, 3, 0, 0x1002);
        Rig two = new Rig("").bytes(0xFFE, "1812").blockKey(2, 0x11);
        two.core.load(0x0020000000000FFEL);
        two.go().dueFault(0);
        Rig.part("interruptions look at no keys");
        Rig all = new Rig("00");
        for (int k = 0; k < 4; k++) {
            all.blockKey(k, k == 1 ? 4 : 0x11);
        }
        all.status(0x00200000, 0).go().dueOld(1, 1, 0, Rig.CODE + 2);
    }

    private static void leastOneCounts() {
        Rig.part("the least one counts");
        new Rig("5810C001").blockKey(2, 0x11).status(0x00200000, 0).go().dueFault(4);
        new Rig("5C10C001").blockKey(2, 0x11).status(0x00200000, 0).go().dueFault(4);
        new Rig("D200A000C000").blockKey(2, 0x11).status(0x00200000, 0).go().dueFault(4);
        new Rig("D200C000A000").blockKey(2, 0x10).status(0x00200000, 0).go().dueFault(4);
        new Rig("D20FB001C000").blockKey(3, 0x10).status(0x00200000, 0).go().dueFault(4);
        new Rig("D20FB001C000").go().dueFault(5);
        new Rig("D20FB000C000").go().dueFault(0);
        new Rig("D20FC000B001").go().dueFault(5);
        new Rig("FC00A000C000").go().dueFault(5);
        new Rig("FC00C000C000").go().dueFault(6);
        new Rig("FC00C000C000").blockKey(2, 0x10).status(0x00200000, 0).go().dueFault(4);
        new Rig("FD10C000C001").data("000000").go().dueFault(7);
        new Rig("4F10C001").go().dueFault(6);
        new Rig("4F10A001").go().dueFault(5);
        Rig.part("what goes over a block's end");
        new Rig("D203C000C7FE").blockKey(3, 0x11).blockKey(2, 4).status(0x00200000, 0).go().dueFault(4);
        new Rig("D201C000C7FE").blockKey(3, 0x11).blockKey(2, 4).status(0x00200000, 0).go().dueFault(0);
        new Rig("D201C7FEC000").blockKey(3, 0x10).blockKey(2, 4).status(0x00200000, 0).go().dueFault(0);
        new Rig("D202C7FEC000").blockKey(3, 0x10).blockKey(2, 4).status(0x00200000, 0).go().dueFault(4);
    }

    private static void nothingElse() {
        Rig.part("what meets an exception does nothing else");
        Rig rig = new Rig("D2FFBF00C000").reg(11, 0x1000).data("0102030405").condition(2);
        rig.reg(11, 0x1010);
        int sum = rig.core.sum();
        rig.go();
        rig.dueOld(5, 3, 2, Rig.CODE + 6);
        rig.core.write(40, 0, 8);
        Rig.due("sum", rig.core.sum(), sum);
    }

    private static void externals() {
        Rig.part("external");
        Rig rig = new Rig("1812");
        rig.core.load(0xFF41FFFF7F000800L);
        rig.core.want(0x21);
        rig.core.want(0x02);
        rig.go();
        Rig.due("old", rig.core.read(24, 8), 0xFF4100233F000800L);
        Rig.due("status", rig.core.status(), WAIT);
        Rig.due("told", rig.core.told(2), 1);
        rig.dueReg(1, 0);
        Rig.part("masked");
        rig = new Rig("1812").reg(2, 3);
        rig.core.load(0xFE00000000000800L);
        rig.core.want(0xFF);
        rig.go().dueReg(1, 3);
        Rig.due("told", rig.core.told(2), 0);
        rig.core.load(MASK);
        rig.go();
        Rig.due("it was still wanted", rig.core.read(26, 2), 0xFF);
        Rig.part("out of waiting");
        rig = new Rig("1812").reg(2, 3);
        rig.core.write(88, 0x800, 8);
        rig.core.load(MASK | WAIT | 0x1234);
        Rig.due("step", rig.core.step(5), 0);
        rig.core.want(8);
        Rig.due("waits", rig.core.waits(), false);
        Rig.due("step", rig.core.step(2), 2);
        Rig.due("old", rig.core.read(24, 8), MASK | WAIT | 8L << 32 | 0x1234);
        rig.dueReg(1, 3);
        Rig.part("allowed again at once, nothing being wanted");
        rig = new Rig("1812").reg(2, 3);
        rig.core.write(88, MASK | 0x800, 8);
        rig.core.load(MASK);
        rig.core.want(1);
        rig.go(2).dueReg(1, 3);
        Rig.due("told", rig.core.told(2), 1);
        Rig.part("it comes before an instruction that could not be taken");
        rig = new Rig("");
        rig.core.load(MASK | 0x2001);
        rig.core.want(1);
        rig.go().dueFault(0);
        Rig.due("old", rig.core.read(24, 8), MASK | 1L << 32 | 0x2001);
        Rig.part("80 lets it in before the next instruction");
        rig = new Rig("8000C0001812").data("01").reg(2, 3);
        rig.core.want(1);
        rig.go(2).dueReg(1, 0);
        Rig.due("old", rig.core.read(24, 8), MASK | 1L << 32 | 0x804);
    }

    private static void steps() {
        Rig.part("steps");
        Rig rig = new Rig("4110100147F00800");
        Rig.due("step", rig.core.step(3000), 3000);
        rig.dueReg(1, 1500).dueAddress(0x800);
        Rig.due("step", rig.core.step(1), 1);
        rig.dueReg(1, 1501).dueAddress(0x804);
        Rig.due("step", rig.core.step(0), 0);
        rig.dueReg(1, 1501);
        Rig.part("less when the machine waits");
        rig = new Rig("181218120A001812");
        Rig.due("step", rig.core.step(3000), 3);
        Rig.due("waits", rig.core.waits(), true);
        Rig.due("step", rig.core.step(3000), 0);
        Rig.part("an interruption is a part of its instruction");
        rig = new Rig("0000");
        rig.core.write(104, Rig.CODE, 8);
        Rig.due("step", rig.core.step(7), 7);
        Rig.due("told", rig.core.told(0), 7);
        Rig.part("what comes behind an exception is done");
        rig = new Rig("00").data("1812").reg(2, 6);
        rig.core.write(104, Rig.DATA, 8);
        rig.go(2).dueReg(1, 6).dueAddress(Rig.DATA + 2);
        Rig.due("told", rig.core.told(0), 1);
    }

    private static void newStatus() {
        Rig.part("new status");
        Rig rig = new Rig("00");
        rig.core.write(104, -1L, 8);
        rig.go();
        Rig.due("status", rig.core.status(), 0xFFF3FFFFFFFFFFFFL);
        rig = new Rig("00").status(0xA5F1ABCD, 0x35).go();
        Rig.due("old", rig.core.read(40, 8), 0xA5F1000175000802L);
        rig = new Rig("");
        rig.core.write(88, -1L, 8);
        rig.core.want(1);
        rig.core.load(MASK);
        rig.go();
        Rig.due("status", rig.core.status(), 0xFFF3FFFFFFFFFFFFL);
    }
}
