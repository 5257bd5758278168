/** Promise 11: DE and DF. */
public final class EditTest {
    public static void main(String[] args) {
        patterns();
        signs();
        fields();
        firstBytes();
        marks();
        wrongDigits();
        sharedBytes();
        oneAfterAnother();
        refusals();
        Rig.end();
    }

    /** DE and DF make the same bytes and the same condition. */
    private static void edit(String pattern, String digits, String due, int condition) {
        String[] both = {"DE", "DF"};
        for (String operation : both) {
            Rig.part(operation + " " + pattern + " " + digits);
            new Rig(String.format("%s%02XC001D000", operation, pattern.length() / 2 - 1)).data("AA" + pattern + "20")
                .more(digits).condition(3).go().dueData("AA" + due + "20").dueCondition(condition)
                .dueAddress(Rig.CODE + 6);
        }
    }

    private static void patterns() {
        edit("4020206B2020214B202040C3D9", "0257426C", "4040F26BF5F7F44BF2F6404040", 2);
        edit("40202020", "000C", "40404040", 0);
        edit("40202020", "123C", "40F1F2F3", 2);
        edit("40202020", "123D", "40F1F2F3", 1);
        edit("40202020", "003D", "404040F3", 1);
        edit("40202120", "000C", "404040F0", 0);
        edit("40212020", "000D", "4040F0F0", 0);
        edit("40206B2020", "012C", "404040F1F2", 2);
        edit("40206B2020", "112C", "40F16BF1F2", 2);
        edit("5C202020", "001234", "5C5C5CF1", 1);
        edit("5C20202020", "0102", "5C5CF1F0F2", 1);
        edit("40", "", "40", 0);
        edit("4041", "", "4040", 0);
        edit("40202020", "999D", "40F9F9F9", 1);
        edit("4020202020", "908070", "40F9F0F8F0", 1);
    }

    private static void signs() {
        edit("4020202060", "123C", "40F1F2F340", 2);
        edit("4020202060", "123A", "40F1F2F340", 2);
        edit("4020202060", "123E", "40F1F2F340", 2);
        edit("4020202060", "123F", "40F1F2F340", 2);
        edit("4020202060", "123D", "40F1F2F360", 1);
        edit("4020202060", "123B", "40F1F2F360", 1);
        edit("4020202160", "000D", "4040404060", 0);
        edit("4020202160", "000C", "4040404040", 0);
        edit("402060", "1C", "40F140", 2);
        edit("402160", "0D", "404060", 0);
        edit("402060", "0D", "404040", 0);
        Rig.part("the next digit is of the next byte");
        edit("40202020", "1C2D30", "40F1F2F3", 1);
        edit("40202020", "1C0C30", "40F140F3", 1);
        edit("40202020", "1C0D3C", "40F140F3", 2);
    }

    private static void fields() {
        edit("40202022202020", "12345C", "40F1F240F3F4F5", 2);
        edit("40202022202020", "12000C", "40F1F240404040", 0);
        edit("40202022202020", "00001D", "404040404040F1", 1);
        edit("4020202240", "12", "40F1F24040", 0);
        edit("40202022", "12", "40F1F240", 0);
        edit("40212260", "12", "40F14040", 0);
        edit("402122602060", "12", "40F14040F260", 1);
    }

    private static void firstBytes() {
        edit("2020", "12", "F1F2", 1);
        edit("2020", "02", "20F2", 1);
        edit("2041", "0C", "2020", 0);
        edit("2120", "00", "21F0", 0);
        edit("2141", "0D", "2141", 0);
        edit("2220", "00", "2222", 0);
        edit("2241", "", "2222", 0);
        edit("20202220", "1203", "F1F22020", 0);
    }

    private static Rig marked(String pattern, String digits) {
        Rig.part("DF " + pattern + " " + digits);
        return new Rig(String.format("DF%02XC000D000", pattern.length() / 2 - 1)).data(pattern).more(digits)
            .reg(1, 0x77777777).go();
    }

    private static void marks() {
        marked("40202020", "012C").dueReg(1, 0x77001002).dueCondition(2);
        marked("40202020", "000C").dueReg(1, 0x77777777);
        marked("40212020", "012C").dueReg(1, 0x77777777);
        marked("40212020", "112C").dueReg(1, 0x77001001);
        marked("40202120", "103C").dueReg(1, 0x77001001);
        marked("40202022202020", "12034C").dueReg(1, 0x77001005);
        marked("40202022212020", "12034C").dueReg(1, 0x77001001);
        marked("4020202020", "1C2D30").dueReg(1, 0x77001002);
        marked("2020", "12").dueReg(1, 0x77001000);
        Rig.part("DE marks nothing");
        new Rig("DE03C000D000").data("40202020").more("012C").reg(1, 0x77777777).go().dueReg(1, 0x77777777);
    }

    private static void wrongDigits() {
        String[] wrong = {"A0", "F0", "12B0", "1CA0", "BC"};
        for (String digits : wrong) {
            Rig.part("DF " + digits);
            new Rig("DF03C000D000").data("40202020").more(digits).reg(1, 0x77777777).condition(3).go()
                .dueData("40202020").dueReg(1, 0x77777777).dueOld(7, 3, 3, Rig.CODE + 6);
        }
        Rig.part("bytes that are not needed");
        new Rig("DE02C000D000").data("402020").more("12A0").go().dueData("40F1F2").dueCondition(1);
    }

    private static void sharedBytes() {
        Rig.part("digits in the pattern");
        new Rig("DE02C000C001").data("402020").go().dueData("40F2F0").dueCondition(1);
        new Rig("DE04C000C001").data("4020204040").go().dueData("40F2F04040").dueCondition(1);
        new Rig("DE04C000C003").data("4020202021").go().dueData("40F2F0F2F1").dueCondition(1);
        new Rig("DE01C000C000").data("4020").go().dueData("40F4").dueCondition(1);
    }

    private static void oneAfterAnother() {
        Rig.part("nothing stays of the patterns before");
        new Rig("DE03C000D000DF02C010D010").data("40202020").more("1234").bytes(0x1010, "5C5020").bytes(0x1810, "0C").go(2)
            .dueData("40F1F2F3").dueMemory(0x1010, "5C5C5C").dueReg(1, 0).dueCondition(0);
        new Rig("DF01C000D000DF01C010D010").data("4020").more("1C").bytes(0x1010, "4020").bytes(0x1810, "0C")
            .go().dueReg(1, 0x1001).reg(1, 0).go().dueReg(1, 0);
    }

    private static Rig refused(String code, String pattern) {
        Rig.part(code + " " + pattern);
        return new Rig(code).data(pattern).blockKey(0, 4).blockKey(1, 4).blockKey(2, 4).blockKey(3, 0x11)
            .status(0x00200000, 0);
    }

    private static void refusals() {
        refused("DE03C000C7FF", "40202020").bytes(0x17FF, "12").go().dueData("40202020").dueFault(4);
        refused("DE03C000C7FF", "40202040").bytes(0x17FF, "12").go().dueData("40F1F240").dueFault(0);
        refused("DE03C000C7FF", "40202040").bytes(0x17FF, "1C").go().dueData("40202040").dueFault(4);
        refused("DE03C000C7FF", "40202020").bytes(0x17FF, "A2").go().dueFault(7);
        refused("DE03C000D000", "40404040").go().dueFault(0);
        refused("DE03D000C000", "40404040").go().dueFault(4);
        refused("DE03A000D000", "40404040").go().dueFault(5);
        refused("DE03C000A000", "40204040").go().dueFault(5);
        refused("DE03C000A000", "40404040").go().dueFault(0);
        Rig.part("behind memory");
        new Rig("DE03C000B00F").data("40202020").bytes(0x1FFF, "A1").go().dueFault(7);
        new Rig("DE03C000B00F").data("40202020").bytes(0x1FFF, "11").go().dueFault(5);
        new Rig("DE03B00DC000").go().dueFault(5);
        new Rig("DE02B00DC000").bytes(0x1FFD, "402020").data("12").go().dueMemory(0x1FFD, "40F1F2").dueFault(0);
        Rig.part("digits that may only be read");
        new Rig("DE02C000D000").data("402020").more("12").blockKey(2, 4).blockKey(3, 0x10).status(0x00200000, 0).go()
            .dueData("40F1F2").dueFault(0);
        new Rig("DE02C000D000").data("402020").more("12").blockKey(2, 0x10).blockKey(3, 4).status(0x00200000, 0).go()
            .dueFault(4);
        Rig.part("the longest pattern");
        Rig all = new Rig("DEFFC000D000").bytes(0x10FF, "21").bytes(0x1100, "21");
        all.go().dueMemory(0x10FF, "00").dueMemory(0x1100, "21").dueCondition(0);
    }
}
