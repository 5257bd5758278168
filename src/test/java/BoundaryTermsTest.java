/** The boundaries of memory, status, instructions, exceptions and conditions, sentence by sentence. */
public final class BoundaryTermsTest {
    private static final int PROBLEM = 0x00010000;
    private static final int KEY2 = 0x00200000;
    /** A block's key that keeps those with key 2 from reading and writing, or from writing alone. */
    private static final int SHUT = 0x11;
    private static final int READ_ONLY = 0x10;

    public static void main(String[] args) {
        memoryHas8192Bytes();
        fourBlocksOf2048();
        addressesHave24Bits();
        bits12And13();
        lengthByTheFirstTwoBits();
        number0IsNoBaseAndNoIndex();
        indexFrom40To5F();
        halvesFrom48To4C();
        keysAgainstKeys();
        notAtItsAddress();
        registersThatMustBeEven();
        theLeastOneCounts();
        whatKeepsItFromBeingTaken();
        nothingElse();
        overflowsAreDone();
        overflowMasks();
        allAreLookedAtFirst();
        conditionStays();
        conditionStaysWithExceptions();
        Rig.end();
    }

    /** Instructions at another place than usual, done with this status. */
    private static Rig at(int address, String code, int upper) {
        Rig rig = new Rig("").bytes(address, code);
        rig.core.load((long) upper << 32 | address);
        return rig;
    }

    private static void memoryHas8192Bytes() {
        Rig.part("memory has 8192 bytes; 5: an address is 8192 or more");
        String[] oneByte = {"4210", "4310", "8000", "9100", "9200", "9300", "9400", "9500", "9600", "9700"};
        for (String code : oneByte) {
            new Rig(code + "B00F").go().dueFault(0);
            new Rig(code + "A000").go().dueOld(5, 2, 0, Rig.CODE + 4);
            new Rig(code + "A001").go().dueFault(5);
            new Rig(code + "0000").go().dueFault(0);
            new Rig(code + "E000").reg(14, -1).go().dueFault(5);
            new Rig(code + "E000").reg(14, 0x800000).go().dueFault(5);
            new Rig(code + "E000").reg(14, 0x10000).go().dueFault(5);
        }
        String[] both = {"D1", "D2", "D3", "D4", "D5", "D6", "D7"};
        for (String code : both) {
            new Rig(code + "03B00CC000").go().dueFault(0);
            new Rig(code + "03B00DC000").go().dueOld(5, 3, 0, Rig.CODE + 6);
            new Rig(code + "03C000B00C").go().dueFault(0);
            new Rig(code + "03C000B00D").go().dueOld(5, 3, 0, Rig.CODE + 6);
            new Rig(code + "FFE000C000").reg(14, 0x1F00).go().dueFault(0);
            new Rig(code + "FFE001C000").reg(14, 0x1F00).go().dueFault(5);
            new Rig(code + "0300000004").go().dueFault(0);
        }
        String[] decimals = {"F1", "F2", "F3", "F8", "F9", "FA", "FB"};
        for (String code : decimals) {
            String data = "000000000000000000000000000000" + "0C";
            new Rig(code + "FFB000C000").bytes(0x1FF0, data).data(data).go().dueFault(0);
            new Rig(code + "FFB001C000").bytes(0x1FF0, data).data(data).go().dueFault(5);
            new Rig(code + "FFC000B000").bytes(0x1FF0, data).data(data).go().dueFault(0);
            new Rig(code + "FFC000B001").bytes(0x1FF0, data).data(data).go().dueFault(5);
        }
    }

    /** In block k alone nobody else may read: its first and last bytes are shut, its neighbours are not. */
    private static void fourBlocksOf2048() {
        Rig.part("four blocks of 2048");
        for (int block = 0; block < 4; block++) {
            int code = 2048 * ((block + 2) % 4) + 0x400;
            int first = 2048 * block;
            reads(code, block, first, 4);
            reads(code, block, first + 2047, 4);
            if (block > 0) {
                reads(code, block, first - 1, 0);
            }
            if (block < 3) {
                reads(code, block, first + 2048, 0);
            }
        }
    }

    private static void reads(int code, int shut, int address, int due) {
        Rig rig = at(code, "43101000", KEY2).reg(1, address);
        for (int block = 0; block < 4; block++) {
            rig.blockKey(block, block == shut ? SHUT : 4);
        }
        rig.go().dueFault(due);
    }

    private static void addressesHave24Bits() {
        Rig.part("addresses have 24 bits");
        new Rig("41100FFF").go().dueReg(1, 0xFFF);
        new Rig("4110EFFF").reg(14, 0x00FFF000).go().dueReg(1, 0xFFFFFF);
        new Rig("4110EFFF").reg(14, 0x00FFF001).go().dueReg(1, 0);
        new Rig("4110E000").reg(14, 0xFF000000).go().dueReg(1, 0);
        new Rig("411FE001").reg(14, 0x00FFFFFF).reg(15, 0x00FFFFFF).go().dueReg(1, 0xFFFFFF);
        new Rig("411FE000").reg(14, 0x80000000).reg(15, 0x80000005).go().dueReg(1, 5);
        new Rig("4310E000").reg(14, 0xAB001000).data("77").go().dueReg(1, 0x77);
        new Rig("4310E002").reg(14, 0x00FFFFFF).bytes(1, "66").go().dueReg(1, 0x66);
        new Rig("D200E001F001").reg(14, 0x7F000FFF).reg(15, 0xFF0017FF).more("55").go().dueData("55");
        Rig.part("the address of the next instruction has 24 bits");
        new Rig("07F2").reg(2, 0xFFFFFFFE).go().dueAddress(0xFFFFFE);
        new Rig("07F2").reg(2, 0x00800000).go().dueAddress(0x800000);
        new Rig("0512").reg(2, 0x7F800002).go().dueAddress(0x800002);
        new Rig("47F0E000").reg(14, 0xFFFFFFFE).go().dueAddress(0xFFFFFE);
        new Rig("47F2E002").reg(14, 0x00FFFFFE).reg(2, 0x1000).go().dueAddress(0x1000);
        new Rig("0612").reg(1, 5).reg(2, 0x7FFFFFFE).go().dueAddress(0xFFFFFE);
        new Rig("8612E000").reg(14, 0x00FFFFFE).reg(1, 5).reg(2, 1).go().dueAddress(0xFFFFFE);
    }

    private static void bits12And13() {
        Rig.part("12 and 13 always 0 (whatever comes there by load(), 82, NEW; all other bits are kept)");
        for (int bit = 0; bit < 64; bit++) {
            long v = 1L << 63 - bit;
            long due = bit == 12 || bit == 13 ? 0 : v;
            MainframeCore x = new MainframeCore();
            x.load(v);
            Rig.due("load, bit " + bit, x.status(), due);
            Rig loaded = new Rig("8200C000");
            loaded.core.write(Rig.DATA, v, 8);
            Rig.due("82, bit " + bit, loaded.go().core.status(), due);
            Rig called = new Rig("0A00");
            called.core.write(96, v, 8);
            Rig.due("NEW of SVC, bit " + bit, called.go().core.status(), due);
            Rig failed = new Rig("0000");
            failed.core.write(104, v, 8);
            Rig.due("NEW of a program one, bit " + bit, failed.go().core.status(), due);
            Rig wanted = new Rig("");
            wanted.core.write(88, v, 8);
            wanted.core.want(1);
            wanted.core.load(1L << 56);
            Rig.due("NEW of an external one, bit " + bit, wanted.go().core.status(), due);
        }
        Rig.part("NEW in memory stays as it is");
        Rig rig = new Rig("0A00");
        rig.core.write(96, -1L, 8);
        rig.go();
        Rig.due("read", rig.core.read(96, 8), -1L);
    }

    private static void lengthByTheFirstTwoBits() {
        Rig.part("2, 4 or 6 bytes, by the first two bits of its first byte (00; 01 and 10; 11)");
        int[][] edges = {{0x00, 1}, {0x3F, 1}, {0x40, 2}, {0x7F, 2}, {0x80, 2}, {0xBF, 2}, {0xC0, 3}, {0xFF, 3}};
        for (int[] e : edges) {
            // What is none, or lies behind memory, tells its length in the old status.
            Rig rig = new Rig(String.format("%02X00A000A000", e[0])).go();
            if (e[0] == 0x80 || e[0] == 0x40) {
                rig.dueOld(5, e[1], 0, Rig.CODE + 2 * e[1]);
            } else {
                rig.dueOld(1, e[1], 0, Rig.CODE + 2 * e[1]);
            }
        }
        Rig.part("its length in halves comes to the status, the address goes on by its bytes");
        long[][] all = {{0x40000802L}, {0x80000804L}, {0xC0000806L}};
        String[] codes = {"1800", "41000000", "D20001000100"};
        for (int k = 0; k < 3; k++) {
            Rig.due(codes[k], new Rig(codes[k]).status(0, 0xC0 - 0x40 * k).go().core.status(), all[k][0]);
        }
    }

    private static void number0IsNoBaseAndNoIndex() {
        Rig.part("the base register, if it isn't number 0; register s, if it isn't number 0");
        new Rig("41100123").reg(0, 0x1000).go().dueReg(1, 0x123);
        new Rig("41101123").reg(1, 0x1000).go().dueReg(1, 0x1123);
        new Rig("411FF123").reg(15, 0x1000).go().dueReg(1, 0x2123);
        new Rig("9277002A").reg(0, 0x1000).go().dueMemory(0x2A, "77").dueData("00");
        new Rig("D2000020C000").reg(0, 0x1000).data("99").go().dueMemory(0x20, "99");
        new Rig("D200C0000020").reg(0, 0x1800).bytes(0x20, "98").go().dueData("98");
    }

    /** With an index the address lies behind memory, or is another one. */
    private static void indexFrom40To5F() {
        Rig.part("with operations 0x40 to 0x5F s is an index");
        String[] indexed = {"40", "42", "43", "48", "49", "4A", "4B", "4C", "4E", "4F", "50", "54", "55", "56", "57", "58",
            "59", "5A", "5B", "5C", "5D", "5E", "5F"};
        for (String operation : indexed) {
            new Rig(operation + "23C000").reg(3, 0x1000).go().dueOld(5, 2, 0, Rig.CODE + 4);
        }
        new Rig("4123C008").reg(3, 0x30).go().dueReg(2, 0x1038);
        new Rig("4423C008").reg(3, 0x30).bytes(0x1038, "1856").reg(2, 0).reg(6, 9).go().dueReg(5, 9);
        new Rig("4523C008").reg(3, 0x30).go().dueAddress(0x1038);
        new Rig("4623C008").reg(2, 5).reg(3, 0x30).go().dueAddress(0x1038);
        new Rig("47F3C008").reg(3, 0x30).go().dueAddress(0x1038);
        String[] others = {"80", "82", "90", "91", "92", "93", "94", "95", "96", "97", "98"};
        for (String operation : others) {
            new Rig(operation + "22C000").reg(2, 0x1000).go().dueFault(0);
        }
        new Rig("8643C008").reg(4, 9).reg(3, 0x30).go().dueAddress(0x1008);
        new Rig("8743C008").reg(4, -9).reg(3, 0).go().dueAddress(0x1008);
        for (int operation = 0x88; operation < 0x90; operation++) {
            new Rig(String.format("%02X430000", operation)).reg(3, 1).reg(4, 0x10).reg(5, 0x11).go().dueReg(4, 0x10)
                .dueReg(5, 0x11);
        }
    }

    private static void halvesFrom48To4C() {
        Rig.part("M is a half for 0x48 to 0x4C, else a word");
        String data = "0000FFFF00010000";
        new Rig("4810C002").data(data).go().dueReg(1, -1);
        new Rig("4910C002").data(data).reg(1, -1).go().dueCondition(0);
        new Rig("4A10C002").data(data).reg(1, 10).go().dueReg(1, 9);
        new Rig("4B10C002").data(data).reg(1, 10).go().dueReg(1, 11);
        new Rig("4C10C002").data(data).reg(1, 10).go().dueReg(1, -10);
        new Rig("5810C004").data(data).go().dueReg(1, 0x10000);
        new Rig("5910C004").data(data).reg(1, 0x10000).go().dueCondition(0);
        new Rig("5A10C004").data(data).reg(1, 1).go().dueReg(1, 0x10001);
        new Rig("5B10C004").data(data).reg(1, 1).go().dueReg(1, -0xFFFF);
        Rig.part("halves have signs");
        new Rig("4810C000").data("8000").go().dueReg(1, -0x8000);
        new Rig("4810C000").data("7FFF").go().dueReg(1, 0x7FFF);
    }

    private static void keysAgainstKeys() {
        for (int key = 0; key < 16; key++) {
            for (int own = 0; own < 32; own++) {
                boolean foreign = key != 0 && own / 2 != key;
                boolean shut = foreign && own % 2 == 1;
                Rig.part("4: key " + own + ", and " + key + " in the status");
                oneKey("9255C000", key, own).dueFault(foreign ? 4 : 0).dueData(foreign ? "00" : "55");
                oneKey("9500C000", key, own).dueFault(shut ? 4 : 0);
                Rig taken = at(Rig.DATA, "1812", key << 20).reg(2, 9).blockKey(2, own).go();
                taken.dueReg(1, shut ? 0 : 9).dueFault(shut ? 4 : 0);
                Rig done = new Rig("4400C000").data("1812").reg(2, 9).status(key << 20, 0).blockKey(2, own).go();
                done.dueReg(1, shut ? 0 : 9).dueFault(shut ? 4 : 0);
            }
        }
    }

    private static Rig oneKey(String code, int key, int own) {
        return new Rig(code).blockKey(2, own).status(key << 20, 0).go();
    }

    private static void notAtItsAddress() {
        Rig.part("6: a half, word or double does not lie at an even, fourth, eighth address");
        String[] halves = {"4020", "4820", "4920", "4A20", "4B20", "4C20"};
        String[] words = {"5020", "5420", "5520", "5620", "5720", "5820", "5920", "5A20", "5B20", "5C20", "5D20", "5E20",
            "5F20", "9022", "9822"};
        String[] doubles = {"8200", "4E20", "4F20"};
        String[] bytes = {"4220", "4320", "8000", "9100", "9200", "9300", "9400", "9500", "9600", "9700"};
        for (int offset = 0; offset < 8; offset++) {
            aligned(halves, offset, 2);
            aligned(words, offset, 4);
            aligned(doubles, offset, 8);
            aligned(bytes, offset, 1);
        }
        Rig.part("6 comes behind 5, also if the last byte alone lies behind memory");
        for (int offset = 9; offset < 16; offset++) {
            for (String code : doubles) {
                new Rig(String.format("%sB%03X", code, offset)).go().dueFault(5);
            }
        }
        for (int offset = 13; offset < 16; offset++) {
            for (String code : words) {
                new Rig(String.format("%sB%03X", code, offset)).go().dueFault(5);
            }
        }
        for (String code : halves) {
            new Rig(code + "B00F").go().dueFault(5);
        }
        Rig.part("strings and decimals lie anywhere");
        new Rig("D203C001D003").more("00000001020304").go().dueData("0001020304").dueFault(0);
        new Rig("FA11C001D003").data("00001C").more("000000002C").go().dueData("00003C").dueFault(0);
    }

    private static void aligned(String[] codes, int offset, int n) {
        for (String code : codes) {
            Rig.part("6: " + code + " at " + offset);
            String number = code.equals("4F20") ? "000000000000000C" : "0000000C0000000C";
            new Rig(String.format("%sC%03X", code, offset)).data(number + number).reg(3, 5).go()
                .dueFault(offset % n == 0 ? 0 : 6);
        }
    }

    private static void registersThatMustBeEven() {
        Rig.part("6: a register that must be even (e) is not");
        String[] codes = {"1C%X7", "1D%X7", "5C%X0C000", "5D%X0C000", "8C%X00001", "8D%X00001", "8E%X00001", "8F%X00001"};
        for (String code : codes) {
            for (int r = 0; r < 16; r++) {
                if (r != 12 && r != 7) {
                    Rig rig = new Rig(String.format(code, r)).data("00000003").reg(r & 14, 0).reg(r | 1, 4).reg(7, 3).go();
                    rig.dueFault(r % 2 == 0 ? 0 : 6);
                }
            }
        }
        Rig.part("other registers need not be even");
        new Rig("9833C000").data("00000005").go().dueReg(3, 5).dueFault(0);
        new Rig("4C30C000").data("0005").reg(3, 5).go().dueReg(3, 25).dueFault(0);
        new Rig("8B300001").reg(3, 5).go().dueReg(3, 10).dueFault(0);
    }

    private static void theLeastOneCounts() {
        Rig.part("2 before 4, 5 and 6");
        new Rig("8200C001").blockKey(2, SHUT).status(KEY2 | PROBLEM, 0).go().dueFault(2);
        new Rig("8000C000").blockKey(2, SHUT).status(KEY2 | PROBLEM, 0).go().dueFault(2);
        new Rig("8200A001").status(PROBLEM, 0).go().dueFault(2);
        new Rig("0812").reg(2, 0x2001).status(PROBLEM, 0).go().dueFault(2);
        new Rig("0912").reg(2, 0x1001).status(PROBLEM, 0).go().dueFault(2);
        Rig.part("4 before 5");
        new Rig("D203B00EC000").blockKey(3, READ_ONLY).status(KEY2, 0).go().dueFault(4);
        new Rig("D203A000C000").blockKey(2, SHUT).status(KEY2, 0).go().dueFault(4);
        new Rig("D203C000A000").blockKey(2, READ_ONLY).status(KEY2, 0).go().dueFault(4);
        new Rig("F833C000A000").blockKey(2, READ_ONLY).status(KEY2, 0).go().dueFault(4);
        new Rig("F933A000C000").blockKey(2, SHUT).status(KEY2, 0).go().dueFault(4);
        new Rig("9816B000").blockKey(3, SHUT).status(KEY2, 0).go().dueFault(4);
        Rig.part("4 before 6");
        new Rig("5810C001").blockKey(2, SHUT).status(KEY2, 0).go().dueFault(4);
        new Rig("4E10C001").blockKey(2, READ_ONLY).status(KEY2, 0).go().dueFault(4);
        new Rig("5C10C000").blockKey(2, SHUT).status(KEY2, 0).go().dueFault(4);
        new Rig("FC88C000D000").blockKey(2, READ_ONLY).status(KEY2, 0).go().dueFault(4);
        new Rig("FD88C000D000").blockKey(3, SHUT).blockKey(2, 4).status(KEY2, 0).go().dueFault(4);
        Rig.part("4 before 7");
        new Rig("FA00C000D000").blockKey(2, READ_ONLY).status(KEY2, 0).go().dueFault(4);
        new Rig("4F10C000").blockKey(2, SHUT).status(KEY2, 0).go().dueFault(4);
        Rig.part("5 before 6");
        new Rig("5810A001").go().dueFault(5);
        new Rig("5C10A000").go().dueFault(5);
        new Rig("4F10A001").go().dueFault(5);
        new Rig("0812").reg(2, 0x2001).go().dueFault(5);
        new Rig("FC88A000C000").go().dueFault(5);
        new Rig("FD88C000A000").go().dueFault(5);
        Rig.part("5 before 7");
        new Rig("FA00C000A000").go().dueFault(5);
        new Rig("F900A000C000").go().dueFault(5);
        new Rig("FC10B00FC000").go().dueFault(5);
        Rig.part("6 before 7");
        new Rig("4F10C004").go().dueFault(6);
        new Rig("FC11C000D000").go().dueFault(6);
        new Rig("FDF8C000D000").go().dueFault(6);
        Rig.part("6 before 9, 7 before 11");
        new Rig("1D12").go().dueFault(6);
        new Rig("5D10C000").go().dueFault(6);
        new Rig("FD10C000D000").data("0000").more("0C").go().dueFault(7);
        new Rig("FD10C000D000").data("000C").more("00").go().dueFault(7);
    }

    private static void whatKeepsItFromBeingTaken() {
        Rig.part("what keeps an instruction from being taken counts before 1");
        at(0x1FFE, "FF00", 0).go().dueOld(5, 3, 0, 0x2004);
        at(0x1FFC, "FF000000", 0).go().dueOld(5, 3, 0, 0x2002);
        at(0x1FFE, "7F00", 0).go().dueOld(5, 2, 0, 0x2002);
        at(0xFFE, "7F00", KEY2).blockKey(2, SHUT).go().dueOld(4, 2, 0, 0x1002);
        at(0x801, "0000", 0).go().dueOld(6, 0, 0, 0x801);
        Rig.part("what keeps an instruction from being taken counts before 2");
        at(0x1FFE, "8000", PROBLEM).go().dueOld(5, 2, 0, 0x2002);
        at(0xFFE, "8000", KEY2 | PROBLEM).blockKey(2, SHUT).go().dueOld(4, 2, 0, 0x1002);
        at(0x801, "0812", PROBLEM).go().dueOld(6, 0, 0, 0x801);
        Rig.part("also that of 0x44 counts before 1, 2 and 3");
        new Rig("4400B00E").bytes(0x1FFE, "FF00").go().dueOld(5, 2, 0, Rig.CODE + 4);
        new Rig("4400B00E").bytes(0x1FFE, "8000").status(PROBLEM, 0).go().dueOld(5, 2, 0, Rig.CODE + 4);
        new Rig("4400B00E").bytes(0x1FFE, "4400").go().dueOld(5, 2, 0, Rig.CODE + 4);
        new Rig("4400C001").data("00440000").go().dueOld(6, 2, 0, Rig.CODE + 4);
        new Rig("4400C001").data("00FF0000").go().dueOld(6, 2, 0, Rig.CODE + 4);
        new Rig("4400C001").data("0008120000").status(PROBLEM, 0).go().dueOld(6, 2, 0, Rig.CODE + 4);
        new Rig("4400C7FE").bytes(0x17FE, "4400").blockKey(3, SHUT).status(KEY2, 0).go().dueOld(4, 2, 0, Rig.CODE + 4);
        new Rig("4400C7FE").bytes(0x17FE, "FF00").blockKey(3, SHUT).status(KEY2, 0).go().dueOld(4, 2, 0, Rig.CODE + 4);
        new Rig("4400C7FE").bytes(0x17FE, "8000").blockKey(3, SHUT).status(KEY2 | PROBLEM, 0).go()
            .dueOld(4, 2, 0, Rig.CODE + 4);
        Rig.part("of these, too, the least one counts");
        at(0x1FFE, "FF00", KEY2).blockKey(3, SHUT).go().dueOld(4, 0, 0, 0x1FFE);
        at(0x1FFF, "FF", KEY2).blockKey(3, SHUT).go().dueOld(4, 0, 0, 0x1FFF);
        at(0x1FFF, "FF", 0).go().dueOld(5, 0, 0, 0x1FFF);
        at(0xFFF, "18", KEY2).blockKey(2, SHUT).go().dueOld(4, 0, 0, 0xFFF);
        new Rig("4400B00F").blockKey(3, SHUT).status(KEY2, 0).go().dueFault(4);
        new Rig("4400B00F").go().dueFault(5);
        new Rig("4400C001").blockKey(2, SHUT).status(KEY2, 0).go().dueFault(4);
    }

    private static void stays(Rig rig, int exception) {
        int[] before = new int[16];
        for (int k = 0; k < 16; k++) {
            before[k] = rig.core.register(k);
        }
        int sum = rig.core.sum();
        rig.go().dueFault(exception);
        for (int k = 0; k < 16; k++) {
            rig.dueReg(k, before[k]);
        }
        Rig.due("condition", rig.core.read(44, 1) >> 4 & 3, 2);
        rig.core.write(40, 0, 8);
        Rig.due("sum", rig.core.sum(), sum);
        for (int block = 0; block < 4; block++) {
            Rig.due("key", rig.core.key(block, 0), block == 2 ? SHUT : 4);
        }
    }

    private static Rig full(String code, int upper) {
        Rig rig = new Rig(code).data("0102030405060708").more("1112131415161718").bytes(0x1FF0, "2122232425262728");
        for (int k = 0; k < 10; k++) {
            rig.reg(k, 0x01010101 * (k + 1));
        }
        return rig.blockKey(0, 4).blockKey(1, 4).blockKey(2, SHUT).blockKey(3, 4).status(upper, 0x20);
    }

    private static void nothingElse() {
        Rig.part("what meets one of them does nothing else");
        stays(full("0012", 0), 1);
        stays(full("E2FFC000D000", 0), 1);
        stays(full("0812", PROBLEM).reg(1, 0xF8).reg(2, 0x800), 2);
        stays(full("0912", PROBLEM).reg(2, 0x800), 2);
        stays(full("8000D000", PROBLEM), 2);
        stays(full("8200D000", PROBLEM), 2);
        stays(full("4410D000", 0).more("44100000"), 3);
        stays(full("D2FFD000C000", KEY2), 4);
        stays(full("D2FFC000D000", KEY2), 4);
        stays(full("981FC000", KEY2), 4);
        stays(full("4E10C000", KEY2), 4);
        stays(full("9816B000", 0), 5);
        stays(full("9016B000", 0), 5);
        stays(full("D720B000C000", 0), 5);
        stays(full("DC20B000C000", 0), 5);
        stays(full("F1F0B001C000", 0), 5);
        stays(full("5010D002", 0), 6);
        stays(full("0812", 0).reg(2, 0x801), 6);
        stays(full("0912", 0).reg(2, 0x808), 6);
        stays(full("1C32", 0), 6);
        stays(full("8F300001", 0), 6);
        stays(full("FC11D000B000", 0), 6);
        stays(full("FA11D000B000", 0), 7);
        stays(full("F810D000B000", 0).bytes(0x1FF0, "11"), 7);
        stays(full("4F10D000", 0), 7);
        stays(full("DE03D000B000", 0).more("40202020").bytes(0x1FF0, "12A3"), 7);
        stays(full("DF03D000B000", 0).more("40202020").bytes(0x1FF0, "12A3"), 7);
        stays(full("1D42", 0).reg(2, 0), 9);
        stays(full("5D40D000", 0).more("00000001"), 9);
        stays(full("4F10D000", 0).more("000002147483648C"), 9);
        stays(full("FD31D000B000", 0).more("0012345C").bytes(0x1FF0, "000C"), 11);
        stays(full("FD31D000B000", 0).more("1234567C").bytes(0x1FF0, "001C"), 11);
    }

    private static void overflowsAreDone() {
        Rig.part("but for 8 and 10");
        new Rig("1A12").reg(1, Integer.MAX_VALUE).reg(2, 2).status(0, 0x08).go().dueReg(1, Integer.MIN_VALUE + 1)
            .dueOld(8, 1, 3, Rig.CODE + 2);
        new Rig("8B100002").reg(1, 0x60000001).status(0, 0x08).go().dueReg(1, 4).dueOld(8, 2, 3, Rig.CODE + 4);
        new Rig("8F200002").reg(2, 0x60000000).reg(3, 1).status(0, 0x08).go().dueReg(2, 0).dueReg(3, 4)
            .dueOld(8, 2, 3, Rig.CODE + 4);
        new Rig("FA11C000D000").data("998C").more("003C").status(0, 0x04).go().dueData("001C")
            .dueOld(10, 3, 3, Rig.CODE + 6);
        new Rig("FB11C000D000").data("998D").more("003C").status(0, 0x04).go().dueData("001D")
            .dueOld(10, 3, 3, Rig.CODE + 6);
        new Rig("F801C000D000").more("123C").status(0, 0x04).go().dueData("3C").dueOld(10, 3, 3, Rig.CODE + 6);
    }

    private static void overflowMasks() {
        Rig.part("8, 10: if the program mask has it (36 fixed, 37 decimal; 38, 39 no use)");
        // Register 2 has the least number, 3 is 0, 4 has the greatest one; 1 and the least one are words at a.
        String[] fixed = {"1312", "1012", "1A22", "1B32", "8B200001", "8F200001", "5A40C000", "5B30C004", "4A40C002",
            "4B20C002"};
        String[] decimal = {"FA00C000D000", "FB00C000D001", "F801C000D002"};
        for (int mask = 0; mask < 16; mask++) {
            for (String code : fixed) {
                Rig rig = new Rig(code).reg(2, Integer.MIN_VALUE).reg(4, Integer.MAX_VALUE).data("0000000180000000")
                    .reg(3, 0).status(0, mask).go();
                Rig.due(code + " with mask " + mask, rig.core.read(42, 2), (mask & 8) != 0 ? 8 : 0);
            }
            for (String code : decimal) {
                Rig rig = new Rig(code).data("9C").more("9C9D999C").status(0, mask).go();
                Rig.due(code + " with mask " + mask, rig.core.read(42, 2), (mask & 4) != 0 ? 10 : 0);
            }
        }
    }

    private static void allAreLookedAtFirst() {
        Rig.part("of several bytes that are read or written all are looked at first");
        new Rig("9012B00C").reg(1, -1).reg(2, -1).go().dueMemory(0x1FFC, "00000000").dueFault(5);
        new Rig("9812B00C").bytes(0x1FFC, "FFFFFFFF").go().dueReg(1, 0).dueReg(2, 0).dueFault(5);
        new Rig("D201B00FC000").data("7777").go().dueMemory(0x1FFF, "00").dueFault(5);
        new Rig("D201C000B00F").bytes(0x1FFF, "77").go().dueData("0000").dueFault(5);
        new Rig("D501B00FC000").data("77").condition(3).go().dueOld(5, 3, 3, Rig.CODE + 6);
        new Rig("D501C000B00F").data("77").condition(3).go().dueOld(5, 3, 3, Rig.CODE + 6);
        new Rig("D203C7FED000").reg(12, Rig.CODE).reg(13, Rig.MORE).more("01020304").blockKey(2, READ_ONLY)
            .blockKey(1, 4).status(KEY2, 0).go().dueMemory(0xFFE, "00000000").dueFault(4);
        new Rig("9013CFFC").reg(12, 0).reg(1, -1).blockKey(2, READ_ONLY).blockKey(1, 4).status(KEY2, 0).go()
            .dueMemory(0xFFC, "00000000").dueFault(4);
    }

    private static void conditionStays() {
        Rig.part("the condition stays where nothing is told");
        String[] codes = {"1812", "5810C000", "4810C000", "4110C000", "4310C000", "9812C000", "9012C000", "5010C000",
            "4010C000", "4210C000", "1C42", "5C40C000", "4C10C000", "1D42", "5D40C000", "4E10C000", "4F10C008", "89200001",
            "88200001", "8D200001", "8C200001", "0512", "4510C000", "0712", "4710C000", "07F2", "0612", "4610C000",
            "8612C000", "8712C000", "4400C010", "0812", "0912", "8000C000", "9255C000", "D103C000D000", "D203C000D000",
            "D303C000D000", "DC03C000D000", "F133C000D000", "F233C000D000", "F333C000D000", "FC31C020D000",
            "FD31C020D004"};
        for (String code : codes) {
            for (int condition = 0; condition < 4; condition++) {
                Rig rig = new Rig(code).reg(1, 0x77).reg(2, 0x1000).data("0001020304050607000000000000077C1832")
                    .bytes(0x1020, "0000012C").more("012C0000012C").condition(condition).go();
                Rig.due("condition behind " + code, rig.core.status() >> 28 & 3, condition);
                rig.dueFault(0);
            }
        }
    }

    private static void conditionStaysWithExceptions() {
        Rig.part("the condition in the old status is that from before");
        String[] codes = {"5A10C001", "FA11C000D000", "D703A000C000", "9400A000", "1D32", "FC00C000D000", "0000"};
        for (String code : codes) {
            for (int condition = 0; condition < 4; condition++) {
                Rig rig = new Rig(code).condition(condition).go();
                Rig.due("condition behind " + code, rig.core.read(44, 1) >> 4 & 3, condition);
                Rig.due("told", rig.core.told(0), 1);
            }
        }
    }
}
