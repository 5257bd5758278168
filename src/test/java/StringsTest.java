/** Promise 11: 91 to 97, and D1 to DD. */
public final class StringsTest {
    public static void main(String[] args) {
        immediates();
        moves();
        bits();
        comparisons();
        translations();
        tests();
        toldNearTheEnd("DC");
        toldNearTheEnd("DD");
        Rig.end();
    }

    private static void immediate(String operation, int i, int old, int due, int condition) {
        Rig.part(String.format("%s %02X %02X", operation, i, old));
        new Rig(String.format("%s%02XC001", operation, i)).data(String.format("55%02X55", old)).condition(3 - condition)
            .go().dueData(String.format("55%02X55", due)).dueCondition(condition).dueAddress(Rig.CODE + 4);
    }

    private static void immediates() {
        immediate("94", 0xF0, 0x3C, 0x30, 1);
        immediate("94", 0xC3, 0x3C, 0x00, 0);
        immediate("96", 0xF0, 0x3C, 0xFC, 1);
        immediate("96", 0x00, 0x00, 0x00, 0);
        immediate("97", 0xF0, 0x3C, 0xCC, 1);
        immediate("97", 0x3C, 0x3C, 0x00, 0);
        immediate("95", 0x7F, 0x80, 0x80, 2);
        immediate("95", 0x80, 0x7F, 0x7F, 1);
        immediate("95", 0x80, 0x80, 0x80, 0);
        immediate("91", 0x81, 0x7E, 0x7E, 0);
        immediate("91", 0x00, 0xFF, 0xFF, 0);
        immediate("91", 0x81, 0x80, 0x80, 1);
        immediate("91", 0x81, 0xC3, 0xC3, 3);
        immediate("93", 0x55, 0x80, 0xFF, 1);
        immediate("93", 0x55, 0x7F, 0xFF, 0);
        Rig.part("92");
        for (int condition = 0; condition < 4; condition++) {
            new Rig("92A7C001").data("555555").condition(condition).go().dueData("55A755").dueCondition(condition);
        }
        String[] all = {"91", "92", "93", "94", "95", "96", "97"};
        for (String operation : all) {
            Rig.part(operation);
            new Rig(operation + "FFA000").condition(2).go().dueOld(5, 2, 2, Rig.CODE + 4);
            new Rig(operation + "FFB00F").go().dueFault(0);
        }
    }

    private static void moves() {
        Rig.part("D2");
        new Rig("D204C001D000").data("FFFFFFFFFFFFFF").more("0102030405060708").condition(3).go()
            .dueData("FF0102030405FF").dueCondition(3).dueAddress(Rig.CODE + 6);
        new Rig("D200C001D000").data("FFFFFF").more("0102").go().dueData("FF01FF");
        new Rig("D203C001C000").data("0102030405FF").go().dueData("0101010101FF");
        new Rig("D203C000C001").data("0102030405FF").go().dueData("0203040505FF");
        Rig all = new Rig("D2FFC001C000").data("AA").go();
        for (int k = 0; k < 257; k++) {
            all.dueMemory(Rig.DATA + k, "AA");
        }
        all.dueMemory(Rig.DATA + 257, "00");
        Rig.part("D1");
        new Rig("D102C000D000").data("A1A2A3A4").more("1F2E3D4C").condition(2).go().dueData("AFAEADA4").dueCondition(2);
        new Rig("D102C001C000").data("11223344").go().dueData("11213141");
        new Rig("D100C000D000").data("AF").more("50").go().dueData("A0");
        Rig.part("D3");
        new Rig("D302C000D000").data("A1A2A3A4").more("1F2E3D4C").condition(1).go().dueData("112233A4").dueCondition(1);
        new Rig("D302C001C000").data("11223344").go().dueData("11121314");
        new Rig("D300C000D000").data("FA").more("05").go().dueData("0A");
    }

    private static void bits() {
        Rig.part("D4, D6, D7");
        new Rig("D402C000D000").data("0F0F0F0F").more("F0F1F000").condition(3).go().dueData("0001000F").dueCondition(1);
        new Rig("D402C000D000").data("0F0F0F0F").more("F0F0F000").condition(3).go().dueData("0000000F").dueCondition(0);
        new Rig("D602C000D000").data("0F000F0F").more("F0000000").condition(3).go().dueData("FF000F0F").dueCondition(1);
        new Rig("D602C000D000").data("0000000F").more("00000001").condition(3).go().dueData("0000000F").dueCondition(0);
        new Rig("D702C000D000").data("0F0F0F0F").more("F00F0F0F").condition(3).go().dueData("FF00000F").dueCondition(1);
        new Rig("D702C000C000").data("0F1F2F3F").condition(3).go().dueData("0000003F").dueCondition(0);
        Rig.part("byte by byte");
        new Rig("D702C001C000").data("01020408").go().dueData("0103070F").dueCondition(1);
        new Rig("D603C001C000").data("0102040810").go().dueData("0103070F1F").dueCondition(1);
    }

    private static void comparisons() {
        Rig.part("D5");
        new Rig("D503C000D000").data("01020304FF").more("01020304").condition(3).go().dueCondition(0);
        new Rig("D503C000D000").data("01027F04").more("01028001").condition(3).go().dueCondition(1);
        new Rig("D503C000D000").data("01028004").more("01027FFF").condition(3).go().dueCondition(2);
        new Rig("D500C000D000").data("0102").more("0103").condition(3).go().dueCondition(0);
        new Rig("D501C000D000").data("0102").more("0103").condition(3).go().dueCondition(1);
        new Rig("D501C000D000").data("0301").more("0205").condition(3).go().dueCondition(2);
        new Rig("D500C000D000").data("01").more("02").condition(3).go().dueCondition(1);
        Rig.part("all are looked at first");
        new Rig("D504B00CC000").condition(2).data("01").go().dueOld(5, 3, 2, Rig.CODE + 6);
        new Rig("D504C000B00C").condition(2).data("01").go().dueOld(5, 3, 2, Rig.CODE + 6);
    }

    private static void translations() {
        Rig.part("DC");
        new Rig("DC03C001D000").data("FF00020103FF").more("C0C1C2C3").condition(2).go().dueData("FFC0C2C1C3FF")
            .dueCondition(2);
        new Rig("DC00C000D000").data("FF").bytes(0x18FF, "77").go().dueData("77");
        Rig.part("table among the bytes");
        new Rig("DC02C000C000").data("02000155").go().dueData("01010155");
        Rig.part("only what the bytes tell is read");
        new Rig("DC01C000B00E").data("0001").bytes(0x1FFE, "A1A2").go().dueData("A1A2").dueFault(0);
        new Rig("DC01C000B00E").data("0102").condition(1).go().dueData("0102").dueOld(5, 3, 1, Rig.CODE + 6);
        new Rig("DC01C000C7F0").data("0010").blockKey(2, 4).blockKey(3, 0x11).status(0x00200000, 0).go().dueFault(4);
        new Rig("DC01C000C7F0").data("000F").blockKey(2, 4).blockKey(3, 0x11).status(0x00200000, 0).go().dueFault(0);
        new Rig("DC01C000B000").data("FF00").blockKey(2, 4).blockKey(3, 0x11).status(0x00200000, 0).go().dueFault(4);
        new Rig("DC01B00FC000").go().dueFault(5);
        Rig.part("a table that begins below address 0");
        new Rig("DC00C000E000").reg(14, -1).data("01").bytes(0, "99").go().dueData("99");
        new Rig("DC00C000E000").reg(14, -1).data("00").go().dueFault(5);
    }

    private static void tests() {
        Rig.part("DD");
        Rig none = new Rig("DD02C000D000").data("01020304").more("FF000000FF").reg(1, 0x77777777).reg(2, 0x66666666)
            .condition(3).go();
        none.dueCondition(0).dueReg(1, 0x77777777).dueReg(2, 0x66666666).dueData("01020304");
        new Rig("DD02C000D000").data("01020304").more("FF00EE00FF").reg(1, 0x77777777).reg(2, 0x66666666).go()
            .dueCondition(1).dueReg(1, 0x77001001).dueReg(2, 0x666666EE);
        new Rig("DD02C000D000").data("01020304").more("FF0000DDFF").reg(1, -1).reg(2, -1).go()
            .dueCondition(2).dueReg(1, 0xFF001002).dueReg(2, 0xFFFFFFDD);
        new Rig("DD00C000D000").data("00").more("01").go().dueCondition(2).dueReg(1, 0x1000).dueReg(2, 1);
        new Rig("DD02C000D000").data("020202").more("0000AB").go().dueCondition(1).dueReg(1, 0x1000).dueReg(2, 0xAB);
        Rig.part("all is looked at first");
        new Rig("DD01C000B00E").data("0002").bytes(0x1FFE, "A1A2").reg(1, 4).go().dueReg(1, 4).dueFault(5);
        new Rig("DD01C000B00E").data("0001").bytes(0x1FFE, "A1A2").reg(1, 4).go().dueReg(1, 0x1000).dueCondition(1);
        new Rig("DD01C000C7F0").data("0010").bytes(0x17F0, "01").blockKey(2, 4).blockKey(3, 0x11)
            .status(0x00200000, 0).go().dueFault(4);
        new Rig("DD01B00FC000").go().dueFault(5);
        Rig.part("bytes that may only be read");
        new Rig("DD00C000D000").blockKey(2, 0x10).blockKey(3, 0x10).status(0x00200000, 0x30).go().dueCondition(0);
    }

    /** The table begins 16 bytes before block 3: a byte of 0 tells one in block 2, which may not be read. */
    private static void toldNearTheEnd(String operation) {
        Rig.part(operation + " tells by the bytes below 8192, though others lie beyond");
        beyond(operation + "03B00EC7F0", "0010").dueOld(4, 3, 0, Rig.CODE + 6);
        beyond(operation + "03B00EC7F0", "1000").dueOld(4, 3, 0, Rig.CODE + 6);
        beyond(operation + "FFB00EC7F0", "1000").dueFault(4);
        Rig.part(operation + " tells nothing by the bytes beyond memory");
        beyond(operation + "03B00EC7F0", "1010").dueOld(5, 3, 0, Rig.CODE + 6);
        beyond(operation + "03A000C7F0", "0000").dueFault(5);
        Rig.part(operation + " tells by the bytes behind the last address");
        around(operation + "03E000C7F0", "1000").dueFault(4);
        around(operation + "03E000C7F0", "1010").dueFault(5);
        around(operation + "02E000C7F0", "1000").dueFault(5);
    }

    private static Rig beyond(String code, String lastBytes) {
        Rig rig = foreignTable(code).bytes(0x1FFE, lastBytes).go();
        rig.dueMemory(0x1FFE, lastBytes);
        return rig.dueReg(1, 4);
    }

    private static Rig around(String code, String firstBytes) {
        return foreignTable(code).reg(14, -2).bytes(0, firstBytes).go().dueMemory(0, firstBytes).dueReg(1, 4);
    }

    /** The status's key is 2, that of all blocks, but for block 2. */
    private static Rig foreignTable(String code) {
        return new Rig(code).reg(1, 4).blockKey(0, 4).blockKey(1, 4).blockKey(2, 0x11).blockKey(3, 4)
            .status(0x00200000, 0);
    }
}
