/** Promise 11: which operations there are, and how long instructions are. */
public final class OperationsTest {
    private static final String THERE = " 04 05 06 07 08 09 0A 10 11 12 13 14 15 16 17 18 19 1A 1B 1C 1D 1E 1F"
        + " 40 41 42 43 44 45 46 47 48 49 4A 4B 4C 4E 4F 50 54 55 56 57 58 59 5A 5B 5C 5D 5E 5F"
        + " 80 82 86 87 88 89 8A 8B 8C 8D 8E 8F 90 91 92 93 94 95 96 97 98"
        + " D1 D2 D3 D4 D5 D6 D7 DC DD DE DF F1 F2 F3 F8 F9 FA FB FC FD ";

    public static void main(String[] args) {
        for (int operation = 0; operation < 256; operation++) {
            oneOperation(operation);
            executedOperation(operation);
        }
        Rig.end();
    }

    private static boolean isThere(int operation) {
        return THERE.contains(String.format(" %02X ", operation));
    }

    private static int length(int operation) {
        return operation < 0x40 ? 1 : operation < 0xC0 ? 2 : 3;
    }

    private static void oneOperation(int operation) {
        Rig.part(String.format("operation %02X", operation));
        // An address behind memory comes after exception 1, and PROBLEM too.
        Rig rig = new Rig(String.format("%02X00A000A000", operation)).status(0x00010000, 0x00).go();
        int code = (int) rig.core.read(42, 2);
        Rig.due("there is none", code == 1, !isThere(operation));
        if (code == 1) {
            rig.dueOld(1, length(operation), 0, Rig.CODE + 2 * length(operation));
        }
        boolean supervisor = operation == 8 || operation == 9 || operation == 0x80 || operation == 0x82;
        Rig.due("for the supervisor alone", code == 2, supervisor);
    }

    private static void executedOperation(int operation) {
        Rig.part(String.format("operation %02X by 44", operation));
        Rig rig = new Rig("4400C000").data(String.format("%02X00A000A000", operation)).go();
        int code = (int) rig.core.read(42, 2);
        Rig.due("there is none", code == 1, !isThere(operation));
        Rig.due("44", code == 3, operation == 0x44);
        if (code != 0) {
            rig.dueOld(code, 2, 0, Rig.CODE + 4);
        }
    }
}
