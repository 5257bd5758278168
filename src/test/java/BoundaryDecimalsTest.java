/** The boundaries of decimals, of F1 to F3 and of patterns, sentence by sentence. */
public final class BoundaryDecimalsTest {
    private static final String NINES = "9".repeat(31);
    private static final String ZEROS = "0".repeat(31);

    public static void main(String[] args) {
        registers();
        offsets();
        packs();
        unpacks();
        signsAndDigits();
        writtenSigns();
        overflows();
        lowestDigits();
        allAreReadFirst();
        aNeedBeNone();
        comparisons();
        productLengths();
        productRoom();
        productSigns();
        quotientLengths();
        quotientRoom();
        quotientSigns();
        patternBytes();
        patternSigns();
        patternFill();
        patternFields();
        patternMarks();
        patternNeeds();
        patternRefusals();
        Rig.end();
    }

    private static Rig two(String code, String a, String b) {
        return new Rig(code).data(a).more(b);
    }

    private static void registers() {
        Rig.part("4E: r as a decimal of 8 bytes");
        new Rig("4E10C000").reg(1, 0).go().dueData("000000000000000C");
        new Rig("4E10C000").reg(1, -1).go().dueData("000000000000001D");
        new Rig("4E10C000").reg(1, Integer.MAX_VALUE).go().dueData("000002147483647C");
        new Rig("4E10C000").reg(1, Integer.MIN_VALUE).go().dueData("000002147483648D");
        Rig.part("4F: 9, if it is no word");
        new Rig("4F10C000").data("000002147483647A").go().dueReg(1, Integer.MAX_VALUE).dueFault(0);
        new Rig("4F10C000").data("000002147483648E").reg(1, 5).go().dueReg(1, 5).dueFault(9);
        new Rig("4F10C000").data("000002147483648B").go().dueReg(1, Integer.MIN_VALUE).dueFault(0);
        new Rig("4F10C000").data("000002147483649B").reg(1, 5).go().dueReg(1, 5).dueFault(9);
        new Rig("4F10C000").data("100000000000000C").reg(1, 5).go().dueReg(1, 5).dueFault(9);
        new Rig("4F10C000").data("000000000000000D").reg(1, 5).go().dueReg(1, 0).dueFault(0);
        Rig.part("4F: 7");
        for (int k = 0; k < 15; k++) {
            StringBuilder text = new StringBuilder("000000000000000C");
            text.setCharAt(k, 'A');
            new Rig("4F10C000").data(text.toString()).reg(1, 5).go().dueReg(1, 5).dueFault(7);
        }
        new Rig("4F10C000").data("0000000000000009").go().dueFault(7);
    }

    private static void offsets() {
        Rig.part("F1: the low half of a's last byte stays, before it come b's halves, then 0");
        two("F100C000D000", "A7EE", "BC").go().dueData("C7EE");
        two("F110C000D000", "FFA7EE", "BC").go().dueData("0BC7EE");
        two("F120C000D000", "FFFFA7EE", "BC").go().dueData("000BC7EE");
        two("F101C000D000", "A7EE", "12BC").go().dueData("C7EE");
        two("F1FFC000D000", "F".repeat(30) + "A7EE", "123456789ABCDEF0" + "FEDCBA9876543210").go()
            .dueData("23456789ABCDEF0" + "FEDCBA9876543210" + "7EE");
        two("F1F0C000D000", "F".repeat(32), "BC").go().dueData("0".repeat(29) + "BCF");
        Rig.part("F1: b, and a's last byte, count as they were at first");
        new Rig("F1F0C000C000").data("BC" + "F".repeat(28) + "A7").go().dueData("0".repeat(29) + "BC7");
        new Rig("F100C000C000").data("BC").go().dueData("CC");
        new Rig("F111C000C001").data("12345678").go().dueData("4564" + "5678");
        new Rig("F111C001C000").data("12345678").go().dueData("12" + "2346" + "78");
    }

    private static void packs() {
        Rig.part("F2: the halves of b's last byte change places, before that the low halves of b's other bytes, then 0");
        two("F200C000D000", "00EE", "5A").go().dueData("A5EE");
        two("F2F0C000D000", "F".repeat(32) + "EE", "5A").go().dueData("0".repeat(30) + "A5EE");
        two("F20FC000D000", "00EE", "F1".repeat(15) + "5A").go().dueData("A5EE");
        two("F2FFC000D000", "F".repeat(32) + "EE", "F1F2F3F4F5F6F7F8F9F0F1F2F3F4F5C6").go()
            .dueData("0".repeat(15) + "123456789012345" + "6CEE");
        two("F211C000D000", "FFFFEE", "F15A").go().dueData("01A5EE");
        Rig.part("F2: all of b counts as it was at first");
        new Rig("F217C000C000").data("F1F2F3F4F5F6F7C8").go().dueData("678CF3F4F5F6F7C8");
        new Rig("F233C004C001").data("00F1F2F3C4FFFFFF").go().dueData("00F1F2F30001234C");
        new Rig("F233C000C003").data("000000F1F2F3C4").go().dueData("0001234CF2F3C4");
    }

    private static void unpacks() {
        Rig.part("F3: b's last byte likewise, before that bytes with 0xF and the halves of b's other bytes, 0 if not there");
        two("F300C000D000", "00EE", "5A").go().dueData("A5EE");
        two("F3F0C000D000", "0".repeat(32) + "EE", "5A").go().dueData("F0".repeat(15) + "A5EE");
        two("F30FC000D000", "00EE", "12".repeat(15) + "5A").go().dueData("A5EE");
        two("F3FFC000D000", "0".repeat(32) + "EE", "00".repeat(7) + "AB" + "123456789ABCDE" + "5A").go()
            .dueData("FBF1F2F3F4F5F6F7F8F9FAFBFCFDFEA5EE");
        two("F321C000D000", "000000EE", "125A").go().dueData("F1F2A5EE");
        two("F331C000D000", "00000000EE", "125A").go().dueData("F0F1F2A5EE");
        Rig.part("F3: all of b counts as it was at first");
        new Rig("F3F7C000C000").data("123456789012345C").go().dueData("F0F1F2F3F4F5F6F7F8F9F0F1F2F3F4C5");
        new Rig("F3F7C000C008").bytes(Rig.DATA + 8, "123456789012345C").go().dueData("F0F1F2F3F4F5F6F7F8F9F0F1F2F3F4C5");
    }

    private static void signsAndDigits() {
        Rig.part("the last half is the sign: 0xB and 0xD below 0, 0xA, C, E, F above; 7: digits or signs are none");
        for (int sign = 0; sign < 16; sign++) {
            boolean below = sign == 0xB || sign == 0xD;
            Rig first = two("FA00C000D000", String.format("5%X", sign), "1C").go();
            Rig second = two("FA00C000D000", "1C", String.format("5%X", sign)).go();
            if (sign < 10) {
                first.dueFault(7).dueData(String.format("5%X", sign));
                second.dueFault(7).dueData("1C");
            } else {
                first.dueData(below ? "4D" : "6C").dueCondition(below ? 1 : 2);
                second.dueData(below ? "4D" : "6C").dueCondition(below ? 1 : 2);
            }
        }
        String[] codes = {"F8", "F9", "FA", "FB", "FC", "FD"};
        for (String code : codes) {
            for (int k = 0; k < 5; k++) {
                for (int digit = 9; digit < 16; digit += 3) {
                    StringBuilder text = new StringBuilder("00001C");
                    text.setCharAt(k, "0123456789ABCDEF".charAt(digit));
                    Rig rig = two(code + "62C000D000", "0".repeat(13) + "C", text.toString()).go();
                    Rig.due(code + " of " + text, rig.core.read(42, 2), digit > 9 ? 7 : 0);
                }
            }
        }
    }

    private static void writtenSigns() {
        Rig.part("written signs are 0xC, 0xD; 0 has 0xC");
        String[] signs = {"A", "B", "C", "D", "E", "F"};
        for (String sign : signs) {
            boolean below = sign.equals("B") || sign.equals("D");
            two("F800C000D000", "00", "7" + sign).go().dueData(below ? "7D" : "7C");
            two("F800C000D000", "00", "0" + sign).go().dueData("0C").dueCondition(0);
            two("FA00C000D000", "7" + sign, "0C").go().dueData(below ? "7D" : "7C");
            two("FB00C000D000", "0C", "7" + sign).go().dueData(below ? "7C" : "7D");
            two("FA00C000D000", "0" + sign, "0" + sign).go().dueData("0C").dueCondition(0);
            two("FB00C000D000", "0" + sign, "0C").go().dueData("0C").dueCondition(0);
            two("FB00C000D000", "7" + sign, "7" + sign).go().dueData("0C").dueCondition(0);
            two("FC10C000D000", "007" + sign, "1C").go().dueData(below ? "007D" : "007C");
            two("FD10C000D000", "007" + sign, "2C").go().dueData(below ? "3D1D" : "3C1C");
        }
    }

    private static void overflows() {
        Rig.part("0 has 0xC, but for overflow (then that of the true result)");
        two("F801C000D000", "00", "010D").go().dueData("0D").dueCondition(3);
        two("F801C000D000", "00", "010C").go().dueData("0C").dueCondition(3);
        two("FA00C000D000", "5D", "5D").go().dueData("0D").dueCondition(3);
        two("FA00C000D000", "5C", "5C").go().dueData("0C").dueCondition(3);
        two("FB00C000D000", "5D", "5C").go().dueData("0D").dueCondition(3);
        two("FB00C000D000", "5C", "5D").go().dueData("0C").dueCondition(3);
        two("FB01C000D000", "5C", "015C").go().dueData("0D").dueCondition(3);
        two("FA01C000D000", "5D", "015C").go().dueData("0C").dueCondition(3);
    }

    private static void lowestDigits() {
        Rig.part("put into a with its lowest digits: that others are not 0 is the overflow");
        two("F802C000D000", "00EE", "00009C").go().dueData("9CEE").dueCondition(2);
        two("F802C000D000", "00EE", "00010C").go().dueData("0CEE").dueCondition(3);
        two("F802C000D000", "00EE", "10009D").go().dueData("9DEE").dueCondition(3);
        two("FA11C000D000", "998C", "001C").go().dueData("999C").dueCondition(2);
        two("FA11C000D000", "999C", "001C").go().dueData("000C").dueCondition(3);
        two("FA12C000D000", "999C", "01000D").go().dueData("001D").dueCondition(1);
        two("FA12C000D000", "999C", "00998D").go().dueData("001C").dueCondition(2);
        two("FA12C000D000", "001D", "01000C").go().dueData("999C").dueCondition(2);
        two("FA12C000D000", "000C", "01000C").go().dueData("000C").dueCondition(3);
        two("FAFFC000D000", NINES + "C", ZEROS.substring(1) + "1C").go().dueData(ZEROS + "C").dueCondition(3);
        two("FAFFC000D000", NINES + "D", ZEROS.substring(1) + "1C").go().dueData(NINES.substring(1) + "8D")
            .dueMemory(Rig.DATA, "99");
        two("FAFFC000D000", NINES + "C", NINES + "C").go().dueData(NINES.substring(1) + "8C").dueCondition(3);
        two("F80FC000D000", "00", ZEROS.substring(1) + "7D").go().dueData("7D").dueCondition(1);
        two("F80FC000D000", "00", "1" + ZEROS.substring(2) + "7D").go().dueData("7D").dueCondition(3);
        two("F8F0C000D000", "F".repeat(32), "7D").go().dueData(ZEROS.substring(1) + "7D").dueCondition(1);
    }

    private static void allAreReadFirst() {
        Rig.part("all are read first");
        new Rig("FA21C000C001").data("12345C").go().dueData("12690C").dueCondition(2);
        new Rig("FA12C001C000").data("12345C").go().dueData("12690C").dueCondition(3);
        new Rig("FB33C000C000").data("1234567D").go().dueData("0000000C").dueCondition(0);
        new Rig("F823C001C000").data("0012345D").go().dueData("0012345D").dueCondition(1);
        new Rig("F832C000C002").data("FFFF12345D").go().dueData("0012345D5D").dueCondition(1);
        new Rig("FC31C000C002").data("0000012C").go().dueData("0000144C").dueFault(0);
        new Rig("FD31C000C002").data("0012012C").go().dueFault(11);
        new Rig("FD31C000C002").data("0011012C").go().dueData("917C008C").dueFault(0);
    }

    private static void aNeedBeNone() {
        Rig.part("F8: a need be none");
        for (int k = 0; k < 16; k++) {
            two("F811C000D000", String.format("%X%X%X%XEE", k, k, k, k), "012C").go().dueData("012CEE").dueCondition(2);
        }
        two("F811C000D000", "000C", "0120").go().dueData("000C").dueFault(7);
    }

    private static void comparisons() {
        Rig.part("F9 compared");
        two("F900C000D000", "0D", "0C").condition(3).go().dueCondition(0).dueData("0D");
        two("F90FC000D000", "7F", ZEROS.substring(1) + "7A").condition(3).go().dueCondition(0);
        two("F90FC000D000", "7F", "1" + ZEROS.substring(2) + "7A").condition(3).go().dueCondition(1);
        two("F90FC000D000", "7F", "1" + ZEROS.substring(2) + "7B").condition(3).go().dueCondition(2);
        two("F9F0C000D000", NINES + "D", "9D").condition(3).go().dueCondition(1);
        two("F9FFC000D000", NINES + "C", NINES + "D").status(0, 0x34).go().dueCondition(2);
        two("F9FFC000D000", NINES + "D", NINES + "B").status(0, 0x34).go().dueCondition(0);
    }

    private static void productLengths() {
        Rig.part("FC: 6, if m is above 7, or not below l");
        lengths("FC");
    }

    private static void lengths(String code) {
        for (int l = 0; l < 16; l++) {
            for (int m = 0; m < 16; m++) {
                Rig rig = two(String.format("%s%X%XC000D000", code, l, m), "00".repeat(l) + "3C", "00".repeat(m) + "2C").go();
                Rig.due(code + " with " + l + " and " + m, rig.core.read(42, 2), m > 7 || m >= l ? 6 : 0);
            }
        }
    }

    private static void productRoom() {
        Rig.part("FC: 7, if a's first m + 1 bytes are not 0");
        for (int k = 0; k < 9; k++) {
            StringBuilder text = new StringBuilder("0".repeat(9) + "C");
            text.setCharAt(k, '1');
            two("FC41C000D000", text.toString(), "000C").go().dueFault(k < 4 ? 7 : 0)
                .dueData(k < 4 ? text.toString() : "0".repeat(9) + "C");
        }
        two("FC87C000D000", "00000000000000009C", "999999999999999C").go().dueData("08999999999999991C");
        two("FC87C000D000", "00000000000000109C", "000000000000000C").go().dueFault(7);
        two("FCF7C000D000", "0".repeat(16) + "999999999999999D", "999999999999999D").go()
            .dueData("0999999999999998000000000000001C");
    }

    private static void productSigns() {
        Rig.part("FC: the product's sign, when it is 0, also by those of both");
        String[] signs = {"A", "B", "C", "D", "E", "F"};
        for (String x : signs) {
            for (String y : signs) {
                boolean below = (x.equals("B") || x.equals("D")) != (y.equals("B") || y.equals("D"));
                String sign = below ? "D" : "C";
                two("FC20C000D000", "00000" + x, "0" + y).go().dueData("00000" + sign).dueFault(0);
                two("FC20C000D000", "00003" + x, "0" + y).go().dueData("00000" + sign).dueFault(0);
                two("FC20C000D000", "00003" + x, "4" + y).go().dueData("00012" + sign).dueFault(0);
            }
        }
    }

    private static void quotientLengths() {
        Rig.part("FD: 6 as FC");
        lengths("FD");
    }

    private static void quotientRoom() {
        Rig.part("FD: to a's first l - m bytes, the rest to its last m + 1");
        two("FD10C000D000", "019CEE", "2C").go().dueData("9C1CEE").dueFault(0);
        two("FD10C000D000", "020CEE", "2C").go().dueData("020CEE").dueFault(11);
        two("FD20C000D000", "01999C", "2C").go().dueData("999C1C").dueFault(0);
        two("FD20C000D000", "02000C", "2C").go().dueFault(11);
        two("FD21C000D000", "00999C", "100C").go().dueData("9C099C").dueFault(0);
        two("FD21C000D000", "01000C", "100C").go().dueFault(11);
        two("FD87C000D000", "00" + "999999999999999C", "999999999999999C").go().dueData("1C" + "000000000000000C");
        two("FD87C000D000", "08" + "999999999999999C", "999999999999999C").go().dueData("9C" + "000000000000008C");
        two("FD87C000D000", "99" + "999999999999999C", "999999999999999C").go().dueFault(11);
        two("FDF7C000D000", NINES + "C", "999999999999999C").go().dueFault(11);
        two("FDF7C000D000", "0" + NINES.substring(1) + "C", "999999999999999C").go().dueFault(11);
        two("FDF7C000D000", "0999999999999998" + "999999999999999C", "999999999999999C").go()
            .dueData("999999999999999C" + "999999999999998C").dueFault(0);
        two("FDF7C000D000", "0999999999999999" + "000000000000000C", "999999999999999C").go().dueFault(11);
        Rig.part("FD: 11, if b is 0");
        two("FD10C000D000", "000C", "0C").go().dueData("000C").dueFault(11);
        two("FD10C000D000", "000C", "0D").go().dueData("000C").dueFault(11);
        two("FD20C000D000", "12345D", "0F").go().dueData("12345D").dueFault(11);
    }

    private static void quotientSigns() {
        Rig.part("FD: the rest with a's sign, the quotient's sign also when it is 0");
        String[] signs = {"A", "B", "C", "D", "E", "F"};
        for (String x : signs) {
            for (String y : signs) {
                boolean restBelow = x.equals("B") || x.equals("D");
                boolean below = restBelow != (y.equals("B") || y.equals("D"));
                String rest = restBelow ? "D" : "C";
                String sign = below ? "D" : "C";
                two("FD10C000D000", "003" + x, "4" + y).go().dueData("0" + sign + "3" + rest).dueFault(0);
                two("FD10C000D000", "009" + x, "4" + y).go().dueData("2" + sign + "1" + rest).dueFault(0);
                two("FD10C000D000", "008" + x, "4" + y).go().dueData("2" + sign + "0" + rest).dueFault(0);
                two("FD10C000D000", "000" + x, "4" + y).go().dueData("0" + sign + "0" + rest).dueFault(0);
            }
        }
    }

    /** DE and DF make the same bytes and the same condition. */
    private static void edit(String pattern, String digits, String due, int condition) {
        String[] both = {"DE", "DF"};
        for (String operation : both) {
            two(String.format("%s%02XC000D000", operation, pattern.length() / 2 - 1), pattern + "21", digits)
                .condition(3).go().dueData(due + "21").dueCondition(condition);
        }
    }

    private static void patternBytes() {
        Rig.part("DE: if the digit isn't 0, or the switch is on, the byte becomes 0xF0 and the digit, else the fill");
        edit("40202020", "0000", "40404040", 0);
        edit("40202020", "0010", "404040F1", 1);
        edit("40202020", "9990", "40F9F9F9", 1);
        edit("40202020", "1000", "40F1F0F0", 1);
        Rig.part("DE: the switch goes on, if it is 0x21, or the digit isn't 0");
        edit("40212020", "0000", "4040F0F0", 0);
        edit("40202120", "0000", "404040F0", 0);
        edit("40212120", "0500", "4040F5F0", 1);
        Rig.part("DE: (7, if it is above 9)");
        for (int first = 9; first < 16; first++) {
            Rig rig = two("DE02C000D000", "402020", String.format("%X0", first)).go();
            rig.dueFault(first > 9 ? 7 : 0).dueData(first > 9 ? "402020" : "40F9F0");
            rig = two("DE04C000D000", "4020202020", String.format("12%X0", first)).go();
            rig.dueFault(first > 9 ? 7 : 0);
        }
        Rig.part("DE: a pattern of i + 1 bytes");
        edit("40", "", "40", 0);
        edit("20", "00", "20", 0);
        edit("20", "70", "F7", 1);
        edit("22", "", "22", 0);
    }

    private static void patternSigns() {
        Rig.part("DE: if the second half is a sign, it is taken, too, and the switch goes off for a sign above 0");
        for (int sign = 10; sign < 16; sign++) {
            boolean below = sign == 0xB || sign == 0xD;
            edit("402060", String.format("5%X", sign), below ? "40F560" : "40F540", below ? 1 : 2);
            edit("402160", String.format("0%X", sign), below ? "404060" : "404040", 0);
            edit("402060", String.format("0%X", sign), "404040", 0);
            edit("40202060", String.format("5%X60", sign), "40F5F660", 1);
            edit("40202060", String.format("5%X00", sign), below ? "40F5F060" : "40F54040", below ? 1 : 2);
        }
        Rig.part("DE: a second half that is no sign is a digit of its own");
        edit("40202060", "59", "40F5F960", 1);
        edit("40206020", "59", "40F560F9", 1);
        edit("4020", "59", "40F5", 1);
        Rig.part("DE: also of the last byte of the pattern");
        edit("4020", "5C", "40F5", 2);
        edit("4020", "5D", "40F5", 1);
        edit("4021", "0C", "4040", 0);
    }

    private static void patternFill() {
        Rig.part("DE: fill is the pattern's first byte (so the first one, too)");
        edit("2020", "05", "20F5", 1);
        edit("2120", "05", "21F5", 1);
        edit("2120", "00", "21F0", 0);
        edit("2020", "50", "F5F0", 1);
        edit("2120", "50", "F5F0", 1);
        Rig.part("DE: else: it stays, if the switch is on, else it is the fill (the first byte stays)");
        edit("5C6B206B206B", "05", "5C5C5C5CF56B", 1);
        edit("5C6B216B206B", "00", "5C5C5C6BF06B", 0);
        edit("5C00FF1F23", "", "5C5C5C5C5C", 0);
        edit("5C2000FF1F23", "50", "5CF500FF1F23", 1);
    }

    private static void patternFields() {
        Rig.part("DE: 0x22: it becomes the fill, the switch goes off; condition by the last field");
        edit("4020226B206B", "50", "40F540404040", 0);
        edit("4020226B206B", "56", "40F54040F66B", 1);
        edit("4020226B206B", "5C6C", "40F54040F640", 2);
        edit("40202220", "05", "404040F5", 1);
        edit("40202220", "50", "40F54040", 0);
        Rig.part("DE: 0 if its digits were all 0 (or none)");
        edit("402022", "5D", "40F540", 0);
        edit("4020226B", "5D", "40F54040", 0);
        edit("40222222", "", "40404040", 0);
        edit("40212260", "5D", "40F54040", 0);
        edit("4020222160", "5D0D", "40F5404060", 0);
        Rig.part("DE: else 1 if the switch is on in the end, 2 if not");
        edit("40202020", "1200", "40F1F2F0", 1);
        edit("40202020", "120C", "40F1F2F0", 2);
        edit("4020202020", "1C00", "40F1404040", 2);
        edit("4020202120", "1C00", "40F14040F0", 1);
    }

    private static Rig marked(String pattern, String digits) {
        return two(String.format("DF%02XC000D000", pattern.length() / 2 - 1), pattern, digits).reg(1, 0xAABBCCDD).go();
    }

    private static void patternMarks() {
        Rig.part("DF: when a digit makes its byte while the switch was off, register 1's last 24 bits become that address");
        marked("40202020", "0000").dueReg(1, 0xAABBCCDD);
        marked("40202020", "0010").dueReg(1, 0xAA001003);
        marked("40202020", "1110").dueReg(1, 0xAA001001);
        marked("40212020", "0110").dueReg(1, 0xAABBCCDD);
        marked("40202120", "0110").dueReg(1, 0xAA001002);
        marked("20", "10").dueReg(1, 0xAA001000);
        marked("40202220", "11").dueReg(1, 0xAA001003);
        marked("402020", "1C2C").dueReg(1, 0xAA001002);
        marked("402020", "1D2C").dueReg(1, 0xAA001001);
        two("DE03C000D000", "40202020", "1110").reg(1, 0xAABBCCDD).go().dueReg(1, 0xAABBCCDD);
    }

    private static void patternNeeds() {
        Rig.part("DE: of b as many bytes are read as the pattern's 0x20 and 0x21 need");
        // 255 digits are in 128 bytes, or in 255 if each byte has a sign.
        needs("12", 0x2000 - 128, 0, "F2");
        needs("12", 0x2000 - 127, 5, "20");
        needs("1D", 0x2000 - 255, 0, "F1");
        needs("1D", 0x2000 - 254, 5, "20");
        Rig.part("DE: none, if there is no 0x20 and no 0x21");
        new Rig("DE03C000A000").data("40224142").go().dueData("40404040").dueFault(0);
        Rig.part("DE: bytes of b count as they were at first, also where they lie in the pattern");
        new Rig("DE03C000C000").data("40202020").go().dueData("40F4F0F2").dueCondition(1);
        new Rig("DE05C000C002").data("402020202020").go().dueData("40F2F0F2F0F2").dueCondition(1);
        new Rig("DE04C000C004").data("4020202021").bytes(Rig.DATA + 5, "3C").go().dueData("40F2F1F3" + "40" + "3C");
    }

    /** A pattern of 256 bytes, with digits in every byte from an address on. */
    private static void needs(String each, int address, int due, String last) {
        Rig rig = new Rig("DEFFC000E000").reg(14, address);
        for (int k = 0; k < 256; k += 8) {
            rig.core.write(Rig.DATA + k, 0x2020202020202020L, 8);
            rig.core.write(0x1F00 + k, 0x0101010101010101L * Integer.parseInt(each, 16), 8);
        }
        rig.bytes(Rig.DATA, "40").go().dueFault(due);
        // The 255th digit is the first one of its byte.
        rig.dueMemory(Rig.DATA + 255, due == 0 ? "F1" : "20").dueMemory(Rig.DATA + 254, due == 0 ? last : "20");
        rig.dueMemory(Rig.DATA + 1, due == 0 ? "F1" : "20");
    }

    private static Rig shut(String code, String pattern, String lastOfBlock2, String firstOfBlock3) {
        return new Rig(code).data(pattern).bytes(0x17FF, lastOfBlock2).more(firstOfBlock3).blockKey(0, 4).blockKey(1, 4)
            .blockKey(2, 4).blockKey(3, 0x11).status(0x00200000, 0x20);
    }

    private static void patternRefusals() {
        Rig.part("DE: the first of 4, 5, 7 that is met then counts");
        shut("DE04C000C7FF", "4020202020", "1A", "F0").go().dueFault(4);
        shut("DE04C000C7FF", "4020202020", "A1", "F0").go().dueFault(7);
        shut("DE02C000C7FF", "402020", "12", "F0").go().dueFault(0).dueData("40F1F2");
        shut("DE02C000C7FF", "402020", "1C", "F0").go().dueFault(4).dueData("402020");
        new Rig("DE03C000B00F").data("40202020").bytes(0x1FFF, "F1").go().dueFault(7);
        new Rig("DE03C000B00F").data("40202020").bytes(0x1FFF, "11").go().dueFault(5);
        new Rig("DE02C000B00F").data("402020").bytes(0x1FFF, "11").go().dueFault(0);
        Rig.part("DE: all of the pattern is looked at before");
        new Rig("DE02B00EC000").bytes(0x1FFE, "4020").data("F0").go().dueFault(5);
        shut("DE02C7FEC000", "F0", "20", "20").bytes(0x17FE, "40").go().dueFault(4);
        shut("DE01C7FEC000", "10", "20", "20").bytes(0x17FE, "40").go().dueFault(0).dueMemory(0x17FE, "40F120");
    }
}
