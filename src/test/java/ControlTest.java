/** Promise 11: 04 to 0A, 44 to 47, 80, 82, 86 and 87. */
public final class ControlTest {
    private static final int NEXT2 = Rig.CODE + 2;
    private static final int NEXT4 = Rig.CODE + 4;

    public static void main(String[] args) {
        links();
        conditions();
        counts();
        indices();
        executes();
        programMask();
        supervisorCall();
        keys();
        systemMask();
        statusLoad();
        Rig.end();
    }

    private static void links() {
        Rig.part("05");
        new Rig("0512").reg(2, 0xFF001234).status(0, 0x2D).go().dueReg(1, 0x6D000802).dueAddress(0x1234).dueCondition(2);
        new Rig("0510").reg(0, 0x1234).status(0, 0x3F).go().dueReg(1, 0x7F000802).dueAddress(NEXT2);
        new Rig("0511").reg(1, 0x1234).go().dueReg(1, 0x40000802).dueAddress(0x1234);
        new Rig("0502").reg(2, 0x1235).go().dueReg(0, 0x40000802).dueAddress(0x1235);
        Rig.part("45");
        new Rig("4510C004").status(0, 0x1A).go().dueReg(1, 0x9A000804).dueAddress(0x1004).dueCondition(1);
        new Rig("45C0C004").go().dueReg(12, 0x80000804).dueAddress(0x1004);
        new Rig("4511C004").reg(1, 0x10).go().dueReg(1, 0x80000804).dueAddress(0x1014);
        new Rig("45100000").go().dueReg(1, 0x80000804).dueAddress(0);
        Rig.part("length in the status beforehand doesn't count");
        new Rig("0512").status(0, 0xC0).go().dueReg(1, 0x40000802);
    }

    private static void conditions() {
        for (int mask = 0; mask < 16; mask++) {
            for (int condition = 0; condition < 4; condition++) {
                boolean goes = (mask & 8 >> condition) != 0;
                Rig.part("07, 47 " + mask + " " + condition);
                new Rig(String.format("07%X2", mask)).reg(2, 0x7F001234).condition(condition).go()
                    .dueAddress(goes ? 0x1234 : NEXT2).dueCondition(condition);
                new Rig(String.format("07%X0", mask)).reg(0, 0x1234).condition(condition).go().dueAddress(NEXT2);
                new Rig(String.format("47%X2C008", mask)).reg(2, 0x30).condition(condition).go()
                    .dueAddress(goes ? 0x1038 : NEXT4).dueCondition(condition);
            }
        }
        Rig.part("registers are not changed");
        new Rig("0712").reg(1, 7).reg(2, 8).go().dueReg(1, 7).dueReg(2, 8);
    }

    private static void counts() {
        Rig.part("06");
        new Rig("0612").reg(1, 2).reg(2, 0xAB001234).condition(3).go().dueReg(1, 1).dueAddress(0x1234).dueCondition(3);
        new Rig("0612").reg(1, 1).reg(2, 0x1234).go().dueReg(1, 0).dueAddress(NEXT2);
        new Rig("0612").reg(1, 0).reg(2, 0x1234).go().dueReg(1, -1).dueAddress(0x1234);
        new Rig("0610").reg(1, 9).reg(0, 0x1234).go().dueReg(1, 8).dueAddress(NEXT2);
        new Rig("0611").reg(1, 0x1234).go().dueReg(1, 0x1233).dueAddress(0x1234);
        new Rig("0612").reg(1, Integer.MIN_VALUE).reg(2, 0x1234).status(0, 0x0F).go().dueReg(1, Integer.MAX_VALUE)
            .dueAddress(0x1234).dueFault(0);
        Rig.part("46");
        new Rig("4610C004").reg(1, 2).condition(1).go().dueReg(1, 1).dueAddress(0x1004).dueCondition(1);
        new Rig("4610C004").reg(1, 1).go().dueReg(1, 0).dueAddress(NEXT4);
        new Rig("46C2C004").reg(2, 8).go().dueReg(12, 0xFFF).dueAddress(0x100C);
    }

    private static void indices() {
        index(3, 5, 10, 2, 3, false);
        index(3, 7, 10, 2, 3, false);
        index(3, 8, 10, 2, 3, true);
        index(-3, -5, -8, 2, 3, false);
        index(-3, -4, -8, 2, 3, true);
        index(Integer.MAX_VALUE, 1, 0, 4, 5, false);
        Rig.part("an odd s");
        new Rig("8613C004").reg(1, 1).reg(3, 5).go().dueReg(1, 6).dueAddress(0x1004);
        new Rig("8613C004").reg(1, 0).reg(3, 5).go().dueReg(1, 5).dueAddress(NEXT4);
        new Rig("8713C004").reg(1, 0).reg(3, 5).go().dueReg(1, 5).dueAddress(0x1004);
        Rig.part("r among s and t");
        new Rig("8622C004").reg(2, 5).reg(3, 9).go().dueReg(2, 10).dueAddress(0x1004);
        new Rig("8632C004").reg(2, 5).reg(3, 9).go().dueReg(3, 14).dueAddress(0x1004);
        new Rig("8733C004").reg(3, 5).go().dueReg(3, 10).dueAddress(NEXT4);
        new Rig("86CCC004").reg(13, 0).go().dueReg(12, 0x2000).dueAddress(0x1004);
        Rig.part("s = 0, and 15");
        new Rig("8620C004").reg(0, 5).reg(1, 3).go().dueReg(2, 5).dueAddress(0x1004);
        new Rig("862FC004").reg(15, 5).reg(2, 1).go().dueReg(2, 6).dueAddress(0x1004);
    }

    private static void index(int r, int s, int t, int sNumber, int tNumber, boolean greater) {
        Rig.part("86, 87 " + r + " " + s + " " + t);
        new Rig(String.format("861%XC004", sNumber)).reg(1, r).reg(sNumber, s).reg(tNumber, t).condition(2).go()
            .dueReg(1, r + s).dueAddress(greater ? 0x1004 : NEXT4).dueCondition(2);
        new Rig(String.format("871%XC004", sNumber)).reg(1, r).reg(sNumber, s).reg(tNumber, t).condition(1).go()
            .dueReg(1, r + s).dueAddress(greater ? NEXT4 : 0x1004).dueCondition(1);
    }

    private static void executes() {
        Rig.part("44");
        new Rig("4410C000").data("1A00").reg(1, 0xFFFFFF23).reg(2, 5).reg(3, 6).go().dueReg(2, 11)
            .dueData("1A00").dueAddress(NEXT4).dueCondition(2);
        new Rig("4410C000").data("1A21").reg(1, 0x02).reg(2, 5).reg(3, 6).go().dueReg(2, 11);
        new Rig("4400C000").data("1A23").reg(0, 0xFF).reg(2, 5).reg(3, 6).go().dueReg(2, 11);
        new Rig("4412C000").reg(2, 0x20).bytes(0x1020, "1833").reg(1, 0x40).reg(7, 9).reg(3, 8).go().dueReg(7, 8);
        Rig.part("44 of six bytes, with their number");
        new Rig("4410C000").data("D200D000D010").reg(1, 3).bytes(0x1810, "A1A2A3A4A5").go()
            .dueMemory(0x1800, "A1A2A3A400").dueAddress(NEXT4);
        Rig.part("length and address are those of 44");
        new Rig("4400C000").data("0510").status(0, 0x20).go().dueReg(1, 0xA0000804).dueAddress(NEXT4);
        new Rig("4400C000").data("45100444").go().dueReg(1, 0x80000804).dueAddress(0x444);
        new Rig("4400C000").data("D7FFD000D000").go();
        Rig.due("status", new Rig("4400C000").data("D7FFD000D000").go().core.status(), 0x80000804L);
        Rig svc = new Rig("4410C000").data("0A50").reg(1, 0x0F).go();
        Rig.due("SVC", svc.core.read(32, 8), 0x0000005F80000804L);
        Rig.part("44 of 44");
        new Rig("4400C000").data("4400C001").go().dueOld(3, 2, 0, NEXT4);
        new Rig("4400B00E").bytes(0x1FFE, "4400").go().dueOld(5, 2, 0, NEXT4);
        Rig.part("44 of what cannot be taken");
        new Rig("4400C001").data("00440044").go().dueOld(6, 2, 0, NEXT4);
        new Rig("4400A000").go().dueOld(5, 2, 0, NEXT4);
        new Rig("4400A001").go().dueFault(5);
        new Rig("4400B00F").go().dueFault(5);
        new Rig("4400B00E").bytes(0x1FFE, "1812").reg(2, 4).go().dueReg(1, 4);
        new Rig("4400B00E").bytes(0x1FFE, "FF00").go().dueFault(5);
        new Rig("4400C000").data("1812").blockKey(2, 0x21 - 0x10).status(0x00200000, 0).go().dueOld(4, 2, 0, NEXT4);
        new Rig("4400C001").data("1812").blockKey(2, 0x11).status(0x00200000, 0).go().dueFault(4);
        Rig.part("44's index counts with the joined byte");
        new Rig("4410C000").data("41200100").reg(1, 3).reg(3, 0x55).go().dueReg(2, 0x155);
        Rig.part("44 of an operation with a condition");
        new Rig("4400C000").data("1912").reg(1, 1).reg(2, 2).go().dueCondition(1);
    }

    private static void programMask() {
        Rig.part("04");
        Rig.due("status", new Rig("0410").reg(1, 0xFF123456).go().core.status(), 0x7F000802L);
        Rig.due("status", new Rig("0410").reg(1, 0xC0FFFFFF).status(0, 0x3F).go().core.status(), 0x40000802L);
        Rig.due("status", new Rig("0410").reg(1, 0x15000000).status(0xFF01ABCD, 0xF0).go().core.status(),
            0xFF01ABCD55000802L);
        new Rig("04101312").reg(1, 0x08000000).reg(2, Integer.MIN_VALUE).go(2).dueOld(8, 1, 3, Rig.CODE + 4);
    }

    private static void supervisorCall() {
        Rig.part("0A");
        Rig rig = new Rig("0AFE").status(0xFE4168FF, 0x3A).go();
        Rig.due("old", rig.core.read(32, 8), 0xFE4100FE7A000802L);
        Rig.due("status", rig.core.status(), 1L << 49);
        Rig.due("told", rig.core.told(1), 1);
        rig.dueFault(0);
        Rig.part("bits 12 and 13 of NEW");
        rig = new Rig("0A00");
        rig.core.write(96, -1L, 8);
        rig.go();
        Rig.due("status", rig.core.status(), 0xFFF3FFFFFFFFFFFFL);
    }

    private static void keys() {
        Rig.part("08");
        Rig rig = new Rig("0812").reg(1, 0xFFFFFF57).reg(2, 0xAB001FF0).condition(2).go().dueCondition(2);
        Rig.due("key", rig.core.key(3, 0), 0x0A);
        Rig.due("key", rig.core.key(2, 0), 0);
        rig = new Rig("0812").reg(1, 0xF8).reg(2, 0).go().dueFault(0);
        Rig.due("key", rig.core.key(0, 0), 31);
        Rig.part("09");
        new Rig("0912").blockKey(2, 0x15).reg(1, 0x12345607).reg(2, 0x17F0).condition(1).go().dueReg(1, 0x123456A8)
            .dueCondition(1);
        new Rig("0911").blockKey(1, 0x1F).reg(1, 0xFF000800).go().dueReg(1, 0xFF0008F8);
        String[] both = {"08", "09"};
        for (String operation : both) {
            Rig.part(operation);
            for (int low = 1; low < 16; low++) {
                new Rig(operation + "12").reg(2, 0x1000 + low).go().dueOld(6, 1, 0, NEXT2);
            }
            new Rig(operation + "12").reg(2, 0x2000).go().dueOld(5, 1, 0, NEXT2);
            new Rig(operation + "12").reg(2, 0x2008).go().dueFault(5);
            new Rig(operation + "12").reg(2, 0x800000).go().dueFault(5);
            new Rig(operation + "12").reg(2, 0x2008).status(0x00010000, 0).go().dueOld(2, 1, 0, NEXT2);
            new Rig(operation + "12").reg(2, 0x1000).status(0x00010000, 0).go().dueFault(2);
            new Rig(operation + "12").reg(2, 0x1000).blockKey(2, 0x11).status(0x00200000, 0).go().dueFault(0);
        }
    }

    private static void systemMask() {
        Rig.part("80");
        Rig rig = new Rig("80FFC003").data("000000A500").status(0x58F20000 & ~0x00020000, 0x30).go().dueCondition(3);
        Rig.due("status", rig.core.status(), 0xA5F00000B0000804L);
        new Rig("8000C000").status(0x00010000, 0).go().dueOld(2, 2, 0, NEXT4);
        new Rig("8000A000").status(0x00010000, 0).go().dueFault(2);
        new Rig("8000A000").go().dueFault(5);
        new Rig("8000B00F").go().dueFault(0);
        new Rig("8000C000").blockKey(2, 0x11).status(0x00200000, 0).go().dueFault(4);
        new Rig("8000C000").blockKey(2, 0x10).status(0x00200000, 0).go().dueFault(0);
    }

    private static void statusLoad() {
        Rig.part("82");
        Rig rig = new Rig("82FFC008").data("0000000000000000FFFDFFFFFFFFFFFF").go().dueFault(0);
        Rig.due("status", rig.core.status(), 0xFFF1FFFFFFFFFFFFL);
        rig = new Rig("8200C008").data("00000000000000000123456789ABCDEF").status(0, 0x30).go();
        Rig.due("status", rig.core.status(), 0x0123456789ABCDEFL);
        new Rig("8200C004").go().dueOld(6, 2, 0, NEXT4);
        new Rig("8200A004").go().dueFault(5);
        new Rig("8200B00C").go().dueFault(5);
        new Rig("8200B008").go().dueFault(0);
        new Rig("8200C004").status(0x00010000, 0).go().dueFault(2);
        new Rig("8200C000").status(0x00010000, 0).go().dueFault(2);
        new Rig("8200C000").blockKey(2, 0x11).status(0x00200000, 0).go().dueFault(4);
    }
}
