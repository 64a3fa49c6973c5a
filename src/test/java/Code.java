/** The bytes of the guest's instructions, and ways to put them into a translator. */
final class Code {
    static final int HALT = 0;
    static final int CALL = 160;
    static final int RETURN = 176;
    static final int FILL = 208;
    static final int ALWAYS = 144;
    static final int IF_ZERO = 145;
    static final int IF_NOT_ZERO = 146;
    static final int IF_CARRY = 147;
    static final int IF_NO_CARRY = 148;
    static final int IF_SIGN = 149;
    static final int IF_NO_SIGN = 150;

    private Code() {
    }

    static int copy(int a, int b) {
        return 16 + 4 * a + b;
    }

    static int constant(int a) {
        return 32 + 4 * a;
    }

    static int add(int a, int b) {
        return 48 + 4 * a + b;
    }

    static int subtract(int a, int b) {
        return 64 + 4 * a + b;
    }

    static int compare(int a, int b) {
        return 80 + 4 * a + b;
    }

    static int and(int a, int b) {
        return 96 + 4 * a + b;
    }

    static int load(int a, int b) {
        return 112 + 4 * a + b;
    }

    static int store(int a, int b) {
        return 128 + 4 * a + b;
    }

    static int divide(int a, int b) {
        return 192 + 4 * a + b;
    }

    static int out(int a) {
        return 224 + 4 * a;
    }

    /** The byte that follows a jump or a call, for a way from behind it. */
    static int far(int way) {
        return way & 255;
    }

    static void put(HotTranslator guest, int at, int... bytes) {
        for (int i = 0; i < bytes.length; i++) {
            guest.poke(at + i, bytes[i]);
        }
    }

    static HotTranslator with(int... bytes) {
        HotTranslator guest = new HotTranslator();
        put(guest, 0, bytes);
        return guest;
    }

    static void registers(HotTranslator guest, int... values) {
        for (int i = 0; i < values.length; i++) {
            guest.setRegister(i, values[i]);
        }
    }

    /** The flags that are set, in the order z, s, c. */
    static String flags(HotTranslator guest) {
        StringBuilder set = new StringBuilder();
        for (char flag : new char[] {'z', 's', 'c'}) {
            if (guest.flag(flag)) {
                set.append(flag);
            }
        }
        return set.toString();
    }

    static String registersOf(HotTranslator guest) {
        return guest.register(0) + " " + guest.register(1) + " " + guest.register(2) + " " + guest.register(3);
    }
}
