import java.math.BigInteger;
import java.util.Random;

/** Promise 11: 4E, 4F, F1 to F3 and F8 to FD. */
public final class DecimalsTest {
    private static final BigInteger TEN = BigInteger.TEN;

    public static void main(String[] args) {
        toDecimal();
        toRegister();
        offsets();
        packs();
        unpacks();
        replaces();
        sums();
        oneAfterAnother();
        comparisons();
        products();
        quotients();
        notDecimals();
        Random random = new Random(360);
        for (int k = 0; k < 3000; k++) {
            randomSum(random);
            randomProduct(random);
            randomQuotient(random);
            randomMove(random);
        }
        Rig.end();
    }

    private static Rig rig(String code, String a, String b) {
        return new Rig(code).data(a).more(b);
    }

    private static void toDecimal() {
        Rig.part("4E");
        new Rig("4E10C008").reg(1, 0).condition(3).go().dueMemory(0x1008, "000000000000000C").dueCondition(3);
        new Rig("4E10C000").reg(1, -12345).go().dueData("000000000012345D00");
        new Rig("4E10C000").reg(1, Integer.MAX_VALUE).go().dueData("000002147483647C");
        new Rig("4E10C000").reg(1, Integer.MIN_VALUE).go().dueData("000002147483648D");
        new Rig("4E12C000").reg(1, 7).reg(2, 8).go().dueMemory(0x1008, "000000000000007C");
        new Rig("4E10C004").go().dueOld(6, 2, 0, Rig.CODE + 4);
        new Rig("4E10A004").go().dueFault(5);
        new Rig("4E10B00C").go().dueFault(5);
        new Rig("4E10B008").go().dueMemory(0x1FF8, "000000000000000C").dueFault(0);
    }

    private static void binary(String data, int due) {
        new Rig("4F10C000").data(data).reg(1, 99).condition(2).go().dueReg(1, due).dueCondition(2);
    }

    private static void toRegister() {
        Rig.part("4F");
        binary("000000000012345D", -12345);
        binary("000000000012345B", -12345);
        binary("000000000012345A", 12345);
        binary("000000000012345C", 12345);
        binary("000000000012345E", 12345);
        binary("000000000012345F", 12345);
        binary("000000000000000D", 0);
        binary("000002147483647C", Integer.MAX_VALUE);
        binary("000002147483648D", Integer.MIN_VALUE);
        String[] none = {"000002147483648C", "000002147483649D", "999999999999999C", "999999999999999D", "000004294967296C"};
        for (String data : none) {
            new Rig("4F10C000").data(data).reg(1, 99).condition(1).go().dueReg(1, 99).dueOld(9, 2, 1, Rig.CODE + 4);
        }
        String[] bad = {"0000000000123450", "0000000000123459", "000000000012A45C", "A00000000000000C", "9999999999999AF0"};
        for (String data : bad) {
            new Rig("4F10C000").data(data).reg(1, 99).go().dueReg(1, 99).dueOld(7, 2, 0, Rig.CODE + 4);
        }
        new Rig("4F10C004").go().dueFault(6);
        new Rig("4F10B008").bytes(0x1FF8, "000000000000009C").go().dueReg(1, 9);
    }

    private static void offsets() {
        Rig.part("F1");
        rig("F132C000D000", "1122334455", "ABCDEF").condition(2).go().dueData("0ABCDEF455").dueCondition(2);
        rig("F112C000D000", "11223344", "ABCDEF").go().dueData("DEF23344");
        rig("F100C000D000", "1122", "AB").go().dueData("B122");
        rig("F130C000D000", "1122334455", "AB").go().dueData("00000AB455");
        Rig.part("F1 over itself");
        new Rig("F122C000C000").data("123456FF").go().dueData("234566FF");
        new Rig("F132C000C001").data("12345678FF").go().dueData("03456788FF");
        new Rig("F123C001C000").data("12345678FF").go().dueData("12456788FF");
    }

    private static void packs() {
        Rig.part("F2");
        rig("F233C000D000", "FFFFFFFFEE", "F1F2F3D4").condition(1).go().dueData("0001234DEE").dueCondition(1);
        rig("F213C000D000", "FFFFEE", "F1F2F3D4").go().dueData("234DEE");
        rig("F203C000D000", "FFEE", "F1F2F3D4").go().dueData("4DEE");
        rig("F200C000D000", "FFEE", "AB").go().dueData("BAEE");
        rig("F220C000D000", "FFFFFFEE", "AB").go().dueData("0000BAEE");
        rig("F224C000D000", "FFFFFFEE", "1A2B3C4D5E").go().dueData("ABCDE5EE");
        Rig.part("F2 over itself");
        new Rig("F233C000C000").data("F1F2F3D4EE").go().dueData("0001234DEE");
        new Rig("F233C001C000").data("F1F2F3D4EE").go().dueData("F10001234D");
        new Rig("F233C000C001").data("EEF1F2F3D4").go().dueData("0001234DD4");
        new Rig("F200C000C000").data("AB").go().dueData("BA");
    }

    private static void unpacks() {
        Rig.part("F3");
        rig("F342C000D000", "0000000000EE", "12345D").condition(3).go().dueData("F1F2F3F4D5EE").dueCondition(3);
        rig("F322C000D000", "000000EE", "12345D").go().dueData("F3F4D5EE");
        rig("F372C000D000", "0000000000000000EE", "12345D").go().dueData("F0F0F0F1F2F3F4D5EE");
        rig("F300C000D000", "00EE", "5D").go().dueData("D5EE");
        rig("F330C000D000", "00000000EE", "5D").go().dueData("F0F0F0D5EE");
        Rig.part("F3 over itself");
        new Rig("F342C000C000").data("12345D7777").go().dueData("F1F2F3F4D5");
        new Rig("F342C000C002").data("777712345D").go().dueData("F1F2F3F4D5");
        new Rig("F342C001C002").data("777712345D66").go().dueData("77F1F2F3F4D5");
    }

    private static void replaces() {
        Rig.part("F8");
        rig("F821C000D000", "ABCDEFEE", "123F").condition(3).go().dueData("00123CEE").dueCondition(2);
        rig("F821C000D000", "ABCDEFEE", "123B").condition(3).go().dueData("00123DEE").dueCondition(1);
        rig("F821C000D000", "ABCDEFEE", "000D").condition(3).go().dueData("00000CEE").dueCondition(0);
        rig("F801C000D000", "FFEE", "123D").condition(1).go().dueData("3DEE").dueCondition(3);
        rig("F801C000D000", "FFEE", "120D").condition(1).go().dueData("0DEE").dueCondition(3);
        rig("F801C000D000", "FFEE", "120A").condition(1).go().dueData("0CEE").dueCondition(3);
        rig("F801C000D000", "FFEE", "003D").condition(2).go().dueData("3DEE").dueCondition(1);
        rig("F801C000D000", "FFEE", "120D").status(0, 0x04).go().dueData("0DEE").dueOld(10, 3, 3, Rig.CODE + 6);
        rig("F801C000D000", "FFEE", "120D").status(0, 0x0B).go().dueData("0DEE").dueCondition(3);
        Rig.part("F8 over itself");
        new Rig("F821C000C001").data("FF123D").go().dueData("00123D").dueCondition(1);
        new Rig("F821C001C000").data("123DFFFF").go().dueData("1200123D").dueCondition(1);
        new Rig("F812C001C000").data("12345CFF").go().dueData("12345CFF").dueCondition(3);
    }

    private static void sums() {
        Rig.part("FA");
        rig("FA11C000D000", "123CEE", "456C").condition(3).go().dueData("579CEE").dueCondition(2);
        rig("FA11C000D000", "123CEE", "456D").condition(3).go().dueData("333DEE").dueCondition(1);
        rig("FA11C000D000", "456DEE", "456F").condition(3).go().dueData("000CEE").dueCondition(0);
        rig("FA11C000D000", "000D", "000D").condition(3).go().dueData("000C").dueCondition(0);
        rig("FA11C000D000", "999C", "001C").go().dueData("000C").dueCondition(3);
        rig("FA11C000D000", "999D", "001D").go().dueData("000D").dueCondition(3);
        rig("FA11C000D000", "999D", "001D").status(0, 0x04).go().dueData("000D").dueOld(10, 3, 3, Rig.CODE + 6);
        rig("FA11C000D000", "999D", "001D").status(0, 0x0B).go().dueData("000D").dueCondition(3);
        rig("FA02C000D000", "5C", "12345C").go().dueData("0C").dueCondition(3);
        rig("FA02C000D000", "5C", "00003C").go().dueData("8C").dueCondition(2);
        rig("FA00C000D000", "0A", "0B").go().dueData("0C").dueCondition(0);
        rig("FA00C000D000", "1A", "2E").go().dueData("3C").dueCondition(2);
        Rig.part("FB");
        rig("FB11C000D000", "123C", "456C").go().dueData("333D").dueCondition(1);
        rig("FB11C000D000", "123C", "456D").go().dueData("579C").dueCondition(2);
        rig("FB11C000D000", "000D", "000C").go().dueData("000C").dueCondition(0);
        rig("FB11C000D000", "999D", "001C").go().dueData("000D").dueCondition(3);
        new Rig("FB11C000C000").data("123D").go().dueData("000C").dueCondition(0);
        Rig.part("FA over itself");
        new Rig("FA11C000C000").data("123D").go().dueData("246D").dueCondition(1);
        new Rig("FA20C000C002").data("12345C").go().dueData("12350C").dueCondition(2);
        Rig.part("31 digits");
        String nines = "9999999999999999999999999999999C";
        rig("FAFFC000D000", nines, nines).go().dueData("9999999999999999999999999999998C").dueCondition(3);
        rig("FBFFC000D000", nines, nines).go().dueData("0000000000000000000000000000000C").dueCondition(0);
    }

    private static void oneAfterAnother() {
        Rig.part("nothing stays of the numbers before");
        new Rig("FAFFC000D000FA00C010D010FD31C020D020").data("8888888888888888888888888888888C").more("1".repeat(31) + "C")
            .bytes(0x1010, "3D").bytes(0x1810, "4C").bytes(0x1020, "0000017C").bytes(0x1820, "005C").go(3)
            .dueData("9999999999999999999999999999999C1C").dueMemory(0x1020, "003C002C").dueFault(0);
        new Rig("FAFFC000D000F900C010D010").data("8888888888888888888888888888888C").more("1".repeat(31) + "C")
            .bytes(0x1010, "3C").bytes(0x1810, "3F").go(2).dueCondition(0);
    }

    private static void comparisons() {
        Rig.part("F9");
        rig("F911C000D000", "123C", "124C").condition(3).go().dueData("123C").dueCondition(1);
        rig("F911C000D000", "123C", "123A").condition(3).go().dueCondition(0);
        rig("F911C000D000", "000D", "000C").condition(3).go().dueCondition(0);
        rig("F911C000D000", "123C", "124D").condition(3).go().dueCondition(2);
        rig("F911C000D000", "123D", "124D").condition(3).go().dueCondition(2);
        rig("F911C000D000", "123D", "122B").condition(3).go().dueCondition(1);
        rig("F902C000D000", "5C", "00005C").condition(3).go().dueCondition(0);
        rig("F902C000D000", "5C", "10000C").status(0, 0x34).go().dueData("5C").dueCondition(1);
        rig("F9FFC000D000", "9999999999999999999999999999999D", "9999999999999999999999999999999C").status(0, 0x04).go()
            .dueCondition(1);
    }

    private static void products() {
        Rig.part("FC");
        rig("FC31C000D000", "0000123CEE", "456C").condition(3).go().dueData("0056088CEE").dueCondition(3);
        rig("FC31C000D000", "0000123C", "456D").condition(1).go().dueData("0056088D").dueCondition(1);
        rig("FC31C000D000", "0000123D", "456B").go().dueData("0056088C");
        rig("FC31C000D000", "0000000C", "456D").go().dueData("0000000D");
        rig("FC31C000D000", "0000000D", "000D").go().dueData("0000000C");
        rig("FC31C000D000", "0000123D", "000A").go().dueData("0000000D");
        rig("FC10C000D000", "009C", "9C").go().dueData("081C");
        rig("FCF7C000D000", "0000000000000000" + "999999999999999C", "999999999999999D").go()
            .dueData("0999999999999998000000000000001D");
        Rig.part("FC over itself");
        new Rig("FC30C000C003").data("0000003D").go().dueData("0000009C");
        Rig.part("FC as specified");
        rig("FC11C000D000", "000C", "000C").go().dueOld(6, 3, 0, Rig.CODE + 6);
        rig("FC12C000D000", "000C", "00000C").go().dueFault(6);
        rig("FCF8C000D000", "", "").go().dueFault(6);
        rig("FC98C000D000", "", "").go().dueFault(6);
        rig("FC00C000D000", "0C", "0C").go().dueFault(6);
        rig("FC87C000D000", "00000000000000001C", "000000000000007C").go().dueData("00000000000000007C").dueFault(0);
        Rig.part("FC without room");
        rig("FC31C000D000", "0001123C", "000C").go().dueData("0001123C").dueOld(7, 3, 0, Rig.CODE + 6);
        rig("FC31C000D000", "1000123C", "000C").go().dueFault(7);
        rig("FC31C000D000", "0000999C", "999C").go().dueData("0998001C").dueFault(0);
    }

    private static void quotients() {
        Rig.part("FD");
        rig("FD31C000D000", "0012345CEE", "067C").condition(3).go().dueData("184C017CEE").dueCondition(3);
        rig("FD31C000D000", "0012345D", "067C").condition(1).go().dueData("184D017D").dueCondition(1);
        rig("FD31C000D000", "0012345C", "067D").go().dueData("184D017C");
        rig("FD31C000D000", "0012345D", "067D").go().dueData("184C017D");
        rig("FD31C000D000", "0000000D", "067C").go().dueData("000D000D");
        rig("FD31C000D000", "0000000C", "067D").go().dueData("000D000C");
        rig("FD31C000D000", "0000066B", "067C").go().dueData("000D066D");
        rig("FD31C000D000", "0000067B", "067B").go().dueData("001C000D");
        rig("FD10C000D000", "009C", "2C").go().dueData("4C1C");
        rig("FD20C000D000", "00999C", "9C").go().dueData("111C0C");
        Rig.part("FD without quotient");
        rig("FD31C000D000", "0012345C", "000C").condition(2).go().dueData("0012345C").dueOld(11, 3, 2, Rig.CODE + 6);
        rig("FD31C000D000", "0000000C", "000D").go().dueFault(11);
        rig("FD31C000D000", "0067000C", "067C").go().dueData("0067000C").dueFault(11);
        rig("FD31C000D000", "0066999C", "067C").go().dueData("999C066C").dueFault(0);
        rig("FD10C000D000", "010C", "1C").go().dueFault(11);
        Rig.part("FD as specified");
        rig("FD11C000D000", "000C", "001C").go().dueFault(6);
        rig("FDF8C000D000", "", "").go().dueFault(6);
        rig("FD00C000D000", "0C", "1C").go().dueFault(6);
        Rig.part("FD over itself");
        new Rig("FD30C000C003").data("0000017D").go().dueData("00002C3D").dueFault(0);
    }

    private static void notDecimals() {
        String[] all = {"F8", "F9", "FA", "FB", "FC", "FD"};
        String[] bad = {"00A11C", "A0001C", "000019", "000010", "00F00C"};
        for (String operation : all) {
            for (String data : bad) {
                Rig.part(operation + " " + data);
                rig(operation + "52C000D000", "00000000001C", data).condition(2).go().dueData("00000000001C")
                    .dueOld(7, 3, 2, Rig.CODE + 6);
                Rig rig = rig(operation + "50C000D000", "000000" + data, "1C").condition(2).go();
                if (operation.equals("F8")) {
                    rig.dueData("00000000001C").dueFault(0);
                } else {
                    rig.dueData("000000" + data).dueOld(7, 3, 2, Rig.CODE + 6);
                }
            }
        }
    }

    private static BigInteger number(Random random, int digits) {
        int bits = random.nextInt(110);
        BigInteger v = new BigInteger(bits, random).mod(TEN.pow(digits));
        return random.nextInt(8) == 0 ? TEN.pow(digits).subtract(BigInteger.ONE) : v;
    }

    private static String signed(Random random, BigInteger v, int n, boolean below) {
        String text = Rig.decimal(v, n, below);
        String signs = below ? "BD" : "ACEF";
        return text.substring(0, text.length() - 1) + signs.charAt(random.nextInt(signs.length()));
    }

    private static int condition(BigInteger v) {
        return v.signum() == 0 ? 0 : v.signum() < 0 ? 1 : 2;
    }

    private static void randomSum(Random random) {
        int na = 1 + random.nextInt(16);
        int nb = 1 + random.nextInt(16);
        BigInteger a = number(random, 2 * na - 1);
        BigInteger b = number(random, 2 * nb - 1);
        boolean aBelow = random.nextBoolean();
        boolean bBelow = random.nextBoolean();
        String[] operations = {"F8", "F9", "FA", "FB"};
        String operation = operations[random.nextInt(4)];
        String aText = signed(random, a, na, aBelow);
        String bText = signed(random, b, nb, bBelow);
        BigInteger x = aBelow ? a.negate() : a;
        BigInteger y = bBelow ? b.negate() : b;
        Rig.part(operation + " " + aText + " " + bText);
        Rig rig = rig(String.format("%s%X%XC000D000", operation, na - 1, nb - 1), aText, bText).go();
        if (operation.equals("F9")) {
            rig.dueData(aText).dueCondition(x.compareTo(y) == 0 ? 0 : x.compareTo(y) < 0 ? 1 : 2);
            return;
        }
        BigInteger due = operation.equals("F8") ? y : operation.equals("FA") ? x.add(y) : x.subtract(y);
        boolean overflow = due.abs().compareTo(TEN.pow(2 * na - 1)) >= 0;
        rig.dueData(Rig.decimal(due, na, due.signum() < 0)).dueCondition(overflow ? 3 : condition(due));
    }

    private static void randomProduct(Random random) {
        int nb = 1 + random.nextInt(8);
        int na = nb + 1 + random.nextInt(16 - nb);
        BigInteger a = number(random, 2 * (na - nb) - 1);
        BigInteger b = number(random, 2 * nb - 1);
        boolean aBelow = random.nextBoolean();
        boolean bBelow = random.nextBoolean();
        String aText = signed(random, a, na, aBelow);
        String bText = signed(random, b, nb, bBelow);
        Rig.part("FC " + aText + " " + bText);
        rig(String.format("FC%X%XC000D000", na - 1, nb - 1), aText, bText).condition(3).go()
            .dueData(Rig.decimal(a.multiply(b), na, aBelow != bBelow)).dueCondition(3);
    }

    private static void randomQuotient(Random random) {
        int nb = 1 + random.nextInt(8);
        int na = nb + 1 + random.nextInt(16 - nb);
        BigInteger a = number(random, 2 * na - 1).shiftRight(random.nextInt(60));
        BigInteger b = number(random, 2 * nb - 1);
        boolean aBelow = random.nextBoolean();
        boolean bBelow = random.nextBoolean();
        String aText = signed(random, a, na, aBelow);
        String bText = signed(random, b, nb, bBelow);
        Rig.part("FD " + aText + " " + bText);
        Rig rig = rig(String.format("FD%X%XC000D000", na - 1, nb - 1), aText, bText).condition(3).go();
        if (b.signum() == 0 || a.divide(b).compareTo(TEN.pow(2 * (na - nb) - 1)) >= 0) {
            rig.dueData(aText).dueOld(11, 3, 3, Rig.CODE + 6);
            return;
        }
        rig.dueData(Rig.decimal(a.divide(b), na - nb, aBelow != bBelow) + Rig.decimal(a.mod(b), nb, aBelow))
            .dueCondition(3);
    }

    /** F1, F2 and F3 told in halves, of operands that may share bytes. */
    private static void randomMove(Random random) {
        int na = 1 + random.nextInt(16);
        int nb = 1 + random.nextInt(16);
        int a = random.nextInt(16);
        int b = random.nextInt(16);
        StringBuilder all = new StringBuilder();
        for (int k = 0; k < 64; k++) {
            all.append("0123456789ABCDEF".charAt(random.nextInt(16)));
        }
        String from = all.substring(2 * b, 2 * (b + nb));
        String last = from.substring(2 * nb - 2);
        String swapped = "" + last.charAt(1) + last.charAt(0);
        StringBuilder made = new StringBuilder();
        int kind = 1 + random.nextInt(3);
        if (kind == 1) {
            made.append(from).append(all.charAt(2 * (a + na) - 1));
        } else {
            for (int k = 0; k < 2 * nb - 2; k++) {
                made.append(kind == 2 ? k % 2 == 0 ? "" : "" + from.charAt(k) : "F" + from.charAt(k));
            }
            made.append(swapped);
        }
        while (made.length() < 2 * na) {
            made.insert(0, kind == 3 ? "F0" : "0");
        }
        String due = made.substring(made.length() - 2 * na);
        Rig.part("F" + kind + " " + all + " " + a + " " + na + " " + b + " " + nb);
        new Rig(String.format("F%d%X%XC0%02XC0%02X", kind, na - 1, nb - 1, a, b)).data(all.toString()).condition(2).go()
            .dueData(all.substring(0, 2 * a) + due + all.substring(2 * (a + na))).dueCondition(2);
    }
}
