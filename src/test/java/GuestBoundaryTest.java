import java.util.function.IntConsumer;

/**
 * The boundary cases that the document names under "The guest" and "Steps", each by every tier; the words between
 * quotes are the document's.
 */
public final class GuestBoundaryTest {
    private static final int PLAIN = Code.copy(0, 0);
    private static final Check CHECK = new Check("GuestBoundaryTest");

    public static void main(String[] args) {
        firstValues();
        byEachTier(GuestBoundaryTest::wordsStored);
        byEachTier(GuestBoundaryTest::wordsLoaded);
        byEachTier(GuestBoundaryTest::wordsOfCalls);
        byEachTier(GuestBoundaryTest::wordsOfReturns);
        byEachTier(GuestBoundaryTest::bytesOfFills);
        byEachTier(GuestBoundaryTest::sumsOfAddresses);
        byEachTier(GuestBoundaryTest::sumsOfRegisters);
        byEachTier(GuestBoundaryTest::sumsOfPlaces);
        byEachTier(GuestBoundaryTest::byteThatFollows);
        byEachTier(GuestBoundaryTest::waysOfJumps);
        byEachTier(GuestBoundaryTest::conditions);
        byEachTier(GuestBoundaryTest::numbersThatAreNone);
        byEachTier(GuestBoundaryTest::divisions);
        byEachTier(GuestBoundaryTest::fillsOfFewAndMany);
        byEachTier(GuestBoundaryTest::codeBehindTheMemory);
        byEachTier(GuestBoundaryTest::faultsOfCode);
        byEachTier(GuestBoundaryTest::flagZero);
        byEachTier(GuestBoundaryTest::flagSign);
        byEachTier(GuestBoundaryTest::flagCarry);
        byEachTier(GuestBoundaryTest::flagsStay);
        byEachTier(GuestBoundaryTest::nothingIsDoneAtFaults);
        byEachTier(GuestBoundaryTest::fillStaysDone);
        byEachTier(GuestBoundaryTest::stepsOfInstructions);
        byEachTier(GuestBoundaryTest::stepsOfFills);
        byEachTier(GuestBoundaryTest::interruptsNeedAStep);
        byEachTier(GuestBoundaryTest::interruptsBehindEachWay);
        byEachTier(GuestBoundaryTest::interruptsAskedForLate);
        byEachTier(GuestBoundaryTest::interruptsAtBothEnds);
        byEachTier(GuestBoundaryTest::interruptsWithoutRoom);
        byEachTier(GuestBoundaryTest::interruptsInPlaceOfOthers);
        byEachTier(GuestBoundaryTest::goToIsNoJump);
        byEachTier(GuestBoundaryTest::interruptsAreNoJumps);
        byEachTier(GuestBoundaryTest::readyAgain);
        byEachTier(GuestBoundaryTest::manyCalls);
        CHECK.end();
    }

    private static void byEachTier(IntConsumer test) {
        for (int tier = 0; tier <= 2; tier++) {
            test.accept(tier);
        }
    }

    private static HotTranslator at(int tier, int address, int... bytes) {
        HotTranslator x = new HotTranslator();
        x.setTier(tier);
        Code.put(x, address, bytes);
        x.goTo(address);
        return x;
    }

    private static int word(HotTranslator x, int address) {
        return x.peek(address) + 256 * x.peek(address + 1);
    }

    private static String memory(HotTranslator x) {
        StringBuilder told = new StringBuilder();
        for (int i = 0; i < 256; i++) {
            told.append(x.peek(i)).append(' ');
        }
        return told.toString();
    }

    /** What a fault must leave as it was. */
    private static String guest(HotTranslator x) {
        return memory(x) + Code.registersOf(x) + Code.flags(x) + x.outputs() + " " + x.steps();
    }

    private static void dueFault(String what, HotTranslator x, char fault) {
        String before = guest(x);
        int place = x.place();
        CHECK.due(what + ": steps", x.run(1), 0);
        CHECK.due(what + ": fault", x.state() + "" + x.fault(), "f" + fault);
        CHECK.due(what + ": the place is that of it", x.place(), place);
        CHECK.due(what + ": nothing is done", guest(x), before);
    }

    /** "It has a memory of 256 bytes, 0 at first, four registers .., 0 at first, .. the flags .., not set at first". */
    private static void firstValues() {
        HotTranslator x = new HotTranslator();
        CHECK.due("at first", guest(x) + x.place() + x.state(), "0 ".repeat(256) + "0 0 0 00 00r");
        HotTranslator y = new HotTranslator();
        y.poke(255, 9);
        y.setRegister(3, 8);
        CHECK.due("objects share nothing", guest(x), guest(new HotTranslator()));
        CHECK.due("256 bytes, each its own", memory(y), "0 ".repeat(255) + "9 ");
    }

    /** "it can be read or written at the addresses 0 to 254, otherwise this is the fault 'm'": op 8. */
    private static void wordsStored(int tier) {
        for (int address : new int[] {0, 1, 2, 128, 253, 254}) {
            HotTranslator x = at(tier, 100, Code.store(0, 1), 0);
            Code.registers(x, 0xA1B2, address);
            CHECK.due("word stored at " + address, x.run(1) + " " + x.place(), "1 102");
            CHECK.due("word stored at " + address + ", the lower half first", x.peek(address) + " " + x.peek(address + 1), "178 161");
        }
        for (int address : new int[] {255, 256, 257, 32768, 65534, 65535}) {
            HotTranslator x = at(tier, 100, Code.store(0, 1), 0);
            Code.registers(x, 0xA1B2, address);
            dueFault("word stored at " + address, x, 'm');
        }
    }

    /** The same, op 7. */
    private static void wordsLoaded(int tier) {
        for (int address : new int[] {0, 1, 128, 253, 254}) {
            HotTranslator x = at(tier, 100, Code.load(0, 1), 0);
            Code.registers(x, 7, address);
            Code.put(x, address, 178, 161);
            CHECK.due("word loaded at " + address, x.run(1) + " " + x.register(0) + " " + x.place(), "1 41394 102");
        }
        for (int address : new int[] {255, 256, 257, 32768, 65534, 65535}) {
            HotTranslator x = at(tier, 100, Code.load(0, 1), 0);
            Code.registers(x, 7, address);
            dueFault("word loaded at " + address, x, 'm');
        }
    }

    /** The same, op 10; "register 3 is lessened by 2" modulo 65536. */
    private static void wordsOfCalls(int tier) {
        for (int address : new int[] {0, 1, 128, 253, 254}) {
            HotTranslator x = at(tier, 100, Code.CALL, 10);
            x.setRegister(3, address + 2);
            CHECK.due("call with its word at " + address, x.run(1) + " " + x.place(), "1 112");
            CHECK.due("call: register 3 and word at " + address, x.register(3) + " " + word(x, address), address + " 102");
        }
        for (int top : new int[] {257, 258, 32768, 65535, 0, 1}) {
            HotTranslator x = at(tier, 100, Code.CALL, 10);
            x.setRegister(3, top);
            dueFault("call with register 3 at " + top, x, 'm');
        }
    }

    /** The same, op 11; "the word at register 3, which is increased by 2", odd or not, up to 256. */
    private static void wordsOfReturns(int tier) {
        for (int address : new int[] {0, 1, 2, 127, 253, 254}) {
            HotTranslator x = at(tier, 100, Code.RETURN);
            Code.put(x, address, 50, 0);
            x.setRegister(3, address);
            CHECK.due("return by the word at " + address, x.run(1) + " " + x.place() + " " + x.register(3), "1 50 " + (address + 2));
        }
        for (int address : new int[] {255, 256, 257, 32768, 65534, 65535}) {
            HotTranslator x = at(tier, 100, Code.RETURN);
            x.setRegister(3, address);
            dueFault("return by the word at " + address, x, 'm');
        }
    }

    /** "so is a byte at another address than 0 to 255". */
    private static void bytesOfFills(int tier) {
        for (int address : new int[] {0, 1, 128, 254, 255}) {
            HotTranslator x = at(tier, 100, Code.FILL);
            Code.registers(x, 7, address, 1);
            CHECK.due("fill at " + address, x.run(1) + " " + x.place() + " " + x.peek(address), "1 101 7");
            CHECK.due("fill: registers behind " + address, Code.registersOf(x), "7 " + (address + 1) + " 0 0");
        }
        for (int address : new int[] {256, 257, 32768, 65534, 65535}) {
            HotTranslator x = at(tier, 100, Code.FILL);
            Code.registers(x, 7, address, 1);
            dueFault("fill at " + address, x, 'm');
        }
    }

    /** "All sums are taken modulo 65536": of an address, in ops 7 and 8. */
    private static void sumsOfAddresses(int tier) {
        int[][] sums = {{65535, 1, 0}, {65534, 2, 0}, {65535, 255, 254}, {65281, 255, 0}, {65282, 255, 1}};
        for (int[] sum : sums) {
            HotTranslator x = at(tier, 100, Code.store(0, 1), sum[1], Code.load(2, 1), sum[1]);
            Code.registers(x, 0x1234, sum[0]);
            CHECK.due("store at " + sum[0] + " + " + sum[1], x.run(1) + " " + word(x, sum[2]), "1 4660");
            CHECK.due("load at " + sum[0] + " + " + sum[1], x.run(1) + " " + x.register(2), "1 4660");
            CHECK.due("the register keeps its value", x.register(1), sum[0]);
        }
        for (int[] sum : new int[][] {{65280, 255}, {65535, 0}, {0, 255}, {1, 254}, {255, 0}, {254, 1}}) {
            HotTranslator store = at(tier, 100, Code.store(0, 1), sum[1]);
            store.setRegister(1, sum[0]);
            dueFault("store at " + sum[0] + " + " + sum[1], store, 'm');
            HotTranslator load = at(tier, 100, Code.load(0, 1), sum[1]);
            load.setRegister(1, sum[0]);
            dueFault("load at " + sum[0] + " + " + sum[1], load, 'm');
        }
    }

    private static void result(int tier, int code, int left, int right, int result) {
        HotTranslator x = at(tier, 100, code);
        Code.registers(x, left, right);
        x.run(1);
        CHECK.due("op " + (code >> 4) + " of " + left + " and " + right, x.register(0) + " " + x.register(1), result + " " + right);
    }

    /** "All sums are taken modulo 65536": of registers, in ops 3 and 4; the registers are "without a sign". */
    private static void sumsOfRegisters(int tier) {
        result(tier, Code.add(0, 1), 65534, 1, 65535);
        result(tier, Code.add(0, 1), 65535, 1, 0);
        result(tier, Code.add(0, 1), 1, 65535, 0);
        result(tier, Code.add(0, 1), 65535, 65535, 65534);
        result(tier, Code.add(0, 1), 32768, 32768, 0);
        result(tier, Code.subtract(0, 1), 0, 0, 0);
        result(tier, Code.subtract(0, 1), 0, 1, 65535);
        result(tier, Code.subtract(0, 1), 0, 65535, 1);
        result(tier, Code.subtract(0, 1), 65535, 65535, 0);
        result(tier, Code.subtract(0, 1), 65535, 0, 65535);
        result(tier, Code.compare(0, 1), 0, 1, 0);
        result(tier, Code.and(0, 1), 65535, 65535, 65535);
        result(tier, Code.and(0, 1), 65535, 0, 0);
        result(tier, Code.divide(0, 1), 65535, 32768, 1);
    }

    /** "All sums are taken modulo 65536": of a place, ahead of 0; it goes on up to 256 and over by ways behind 255. */
    private static void sumsOfPlaces(int tier) {
        for (int[] way : new int[][] {{0, -2, 0}, {0, -3, 65535}, {0, -128, 65410}, {100, -128, 65510}, {126, -128, 0}, {127, -128, 1}}) {
            HotTranslator x = at(tier, way[0], Code.ALWAYS, Code.far(way[1]));
            CHECK.due("jump from " + way[0] + " by " + way[1], x.run(1) + " " + x.place(), "1 " + way[2]);
            HotTranslator call = at(tier, way[0], Code.CALL, Code.far(way[1]));
            call.setRegister(3, 200);
            CHECK.due("call from " + way[0] + " by " + way[1], call.run(1) + " " + call.place(), "1 " + way[2]);
        }
        HotTranslator far = at(tier, 254, Code.ALWAYS, 127);
        CHECK.due("jump from 254 by 127", far.run(9) + " " + far.place() + far.fault(), "1 383x");
        HotTranslator call = at(tier, 254, Code.CALL, 127);
        call.setRegister(3, 200);
        CHECK.due("call from 254 by 127", call.run(9) + " " + call.place() + call.fault(), "1 383x");
        CHECK.due("call from 254: the place behind", word(call, 198), 256);
        HotTranslator back = at(tier, 100, Code.RETURN);
        Code.put(back, 20, 255, 255);
        back.setRegister(3, 20);
        CHECK.due("return to 65535", back.run(9) + " " + back.place() + back.fault(), "1 65535x");
        HotTranslator end = at(tier, 255, PLAIN);
        CHECK.due("on behind 255", end.run(9) + " " + end.place() + end.fault(), "1 256x");
    }

    /** "the word at b plus the byte that follows, which is 0 to 255", so without a sign. */
    private static void byteThatFollows(int tier) {
        for (int follows : new int[] {0, 1, 127, 128, 254}) {
            HotTranslator x = at(tier, 100, Code.store(0, 1), follows, Code.load(2, 1), follows);
            Code.registers(x, 0x1234, 0);
            CHECK.due("store with the byte " + follows, x.run(1) + " " + word(x, follows), "1 4660");
            CHECK.due("load with the byte " + follows, x.run(1) + " " + x.register(2), "1 4660");
        }
        HotTranslator most = at(tier, 100, Code.load(2, 1), 255);
        most.setRegister(1, 0);
        dueFault("load with the byte 255", most, 'm');
    }

    /** "plus the byte that follows, from -128 to 127". */
    private static void waysOfJumps(int tier) {
        for (int way : new int[] {-128, -127, -3, -1, 0, 1, 126, 127}) {
            HotTranslator x = at(tier, 128, Code.ALWAYS, Code.far(way));
            CHECK.due("jump by " + way, x.run(1) + " " + x.place(), "1 " + (130 + way));
            HotTranslator call = at(tier, 128, Code.CALL, Code.far(way));
            call.setRegister(3, 9);
            CHECK.due("call by " + way, call.run(1) + " " + call.place(), "1 " + (130 + way));
        }
    }

    /** "0 always, 1 z, 2 not z, 3 c, 4 not c, 5 s, 6 not s": each with each flag alone, and 7 is none. */
    private static void conditions(int tier) {
        int[][] compared = {{1, 0}, {5, 5}, {65535, 1}, {0, 65535}};
        String[] flags = {"", "z", "s", "c"};
        boolean[][] isTaken = {
            {true, false, true, false, true, false, true}, {true, true, false, false, true, false, true},
            {true, false, true, false, true, true, false}, {true, false, true, true, false, false, true}
        };
        for (int i = 0; i < compared.length; i++) {
            for (int condition = 0; condition < 7; condition++) {
                HotTranslator x = at(tier, 100, Code.compare(0, 1), 144 + condition, 20);
                Code.registers(x, compared[i]);
                CHECK.due("condition " + condition, x.run(2), 2);
                CHECK.due("condition " + condition + " with " + flags[i], x.place() + Code.flags(x), (isTaken[i][condition] ? 123 : 103) + flags[i]);
            }
            HotTranslator none = at(tier, 100, Code.compare(0, 1), 151, 20);
            Code.registers(none, compared[i]);
            none.run(1);
            dueFault("condition 7 with " + flags[i], none, 'i');
        }
    }

    /** "with n 0", "with b 0", "All else is the fault 'i'": the numbers next to those that are instructions. */
    private static void numbersThatAreNone(int tier) {
        int[] none = {1, 15, 33, 34, 35, 37, 47, 151, 159, 161, 175, 177, 191, 209, 223, 225, 227, 229, 239, 240, 255};
        for (int first : none) {
            HotTranslator x = at(tier, 100, first, 0, 0);
            Code.registers(x, 1, 50, 3, 60);
            dueFault("first byte " + first, x, 'i');
        }
        int[] some = {0, 16, 31, 32, 44, 48, 63, 64, 79, 80, 95, 96, 111, 112, 127, 128, 143, 144, 150, 160, 176, 192, 207, 208, 224, 236};
        for (int first : some) {
            HotTranslator x = at(tier, 100, first, 0, 0);
            Code.registers(x, 1, 50, 3, 60);
            CHECK.due("first byte " + first, x.run(1) + " " + (x.state() != 'f'), "1 true");
        }
    }

    /** "a divided by b, rounded down, or the fault 'd' for 0". */
    private static void divisions(int tier) {
        for (int[] division : new int[][] {{0, 1, 0}, {1, 1, 1}, {1, 2, 0}, {65535, 1, 65535}, {65535, 65535, 1}, {65534, 65535, 0}, {65535, 2, 32767}, {8, 3, 2}}) {
            result(tier, Code.divide(0, 1), division[0], division[1], division[2]);
        }
        for (int value : new int[] {0, 1, 65535}) {
            HotTranslator x = at(tier, 100, Code.divide(0, 1));
            Code.registers(x, value, 0);
            dueFault(value + " divided by 0", x, 'd');
        }
        HotTranslator itself = at(tier, 100, Code.divide(2, 2));
        dueFault("0 divided by itself", itself, 'd');
    }

    /** "as long as register 2 is not 0, the byte at register 1 becomes the lower half of register 0". */
    private static void fillsOfFewAndMany(int tier) {
        HotTranslator none = at(tier, 100, Code.FILL);
        Code.registers(none, 7, 65535, 0, 0);
        CHECK.due("fill of none", none.run(1) + " " + none.place() + " " + Code.registersOf(none), "1 101 7 65535 0 0");
        for (int value : new int[] {255, 256, 65280, 65535}) {
            HotTranslator one = at(tier, 100, Code.FILL);
            Code.registers(one, value, 20, 1, 0);
            CHECK.due("fill with " + value, one.run(1) + " " + one.peek(20) + " " + one.peek(21), "1 " + value % 256 + " 0");
        }
        HotTranslator all = at(tier, 255, Code.FILL);
        Code.registers(all, Code.FILL, 0, 256, 0);
        CHECK.due("fill of all", all.run(500) + " " + all.place() + all.fault() + Code.registersOf(all), "256 256x208 256 0 0");
        CHECK.due("all filled", memory(all), "208 ".repeat(256));
        HotTranslator most = at(tier, 255, Code.FILL);
        Code.registers(most, Code.FILL, 0, 65535, 0);
        CHECK.due("fill of 65535", most.run(500) + " " + most.place() + most.fault() + Code.registersOf(most), "256 255m208 256 65279 0");
    }

    /** "a first byte .. at another address than 0 to 255 is the fault 'x'". */
    private static void codeBehindTheMemory(int tier) {
        for (int place : new int[] {256, 257, 32768, 65535}) {
            HotTranslator x = at(tier, 100, Code.RETURN);
            Code.put(x, 20, place & 255, place >> 8);
            x.setRegister(3, 20);
            CHECK.due("return to " + place, x.run(1) + " " + x.place() + x.state(), "1 " + place + "r");
            dueFault("code at " + place, x, 'x');
        }
        HotTranslator last = at(tier, 255, Code.HALT);
        CHECK.due("code at 255", last.run(9) + " " + last.place() + last.state(), "1 256h");
    }

    /** "or one that follows, .. is the fault 'x', looked at ahead of 'i' but for the first byte of an instruction that is none". */
    private static void faultsOfCode(int tier) {
        int[] two = {Code.load(0, 1), Code.store(0, 1), Code.ALWAYS, Code.CALL};
        for (int first : two) {
            HotTranslator over = at(tier, 255, first);
            over.setRegister(3, 100);
            dueFault("first byte " + first + " at 255", over, 'x');
            HotTranslator last = at(tier, 254, first, 0);
            last.setRegister(3, 100);
            CHECK.due("first byte " + first + " at 254", last.run(1) + " " + last.place(), "1 256");
        }
        HotTranslator not = at(tier, 255, Code.IF_ZERO);
        dueFault("a jump at 255 whose condition does not hold", not, 'x');
        dueFault("a word that follows 255", at(tier, 255, Code.constant(1)), 'x');
        dueFault("a word that follows 254", at(tier, 254, Code.constant(1), 9), 'x');
        HotTranslator word = at(tier, 253, Code.constant(1), 9, 1);
        CHECK.due("a word that follows 253", word.run(1) + " " + word.register(1), "1 265");
        for (int none : new int[] {33, 151, 161, 240}) {
            dueFault("first byte " + none + " at 255", at(tier, 255, none), 'i');
            dueFault("first byte " + none + " at 254", at(tier, 254, none), 'i');
        }
    }

    private static void flags(int tier, int code, int left, int right, String flags) {
        // each flag is set first or not, as all of them are set anew
        for (int[] before : new int[][] {{1, 0}, {5, 5}, {0, 1}}) {
            HotTranslator x = at(tier, 100, Code.compare(2, 3), code);
            Code.registers(x, left, right, before[0], before[1]);
            x.run(1);
            x.run(1);
            CHECK.due("flags of op " + (code >> 4) + " of " + left + " and " + right, Code.flags(x), flags);
        }
    }

    /** "z, the result is 0". */
    private static void flagZero(int tier) {
        flags(tier, Code.add(0, 1), 0, 0, "z");
        flags(tier, Code.add(0, 1), 0, 1, "");
        flags(tier, Code.add(0, 1), 65535, 1, "zc");
        flags(tier, Code.add(0, 1), 65535, 2, "c");
        flags(tier, Code.subtract(0, 1), 5, 5, "z");
        flags(tier, Code.subtract(0, 1), 6, 5, "");
        flags(tier, Code.subtract(0, 1), 256, 0, "");
        flags(tier, Code.compare(0, 1), 65535, 65535, "z");
        flags(tier, Code.and(0, 1), 170, 85, "z");
        flags(tier, Code.and(0, 1), 170, 2, "");
    }

    /** "s, it is at least 32768". */
    private static void flagSign(int tier) {
        flags(tier, Code.add(0, 1), 32766, 1, "");
        flags(tier, Code.add(0, 1), 32767, 1, "s");
        flags(tier, Code.add(0, 1), 65535, 32768, "c");
        flags(tier, Code.add(0, 1), 65535, 32769, "sc");
        flags(tier, Code.subtract(0, 1), 32768, 1, "");
        flags(tier, Code.subtract(0, 1), 32769, 1, "s");
        flags(tier, Code.compare(0, 1), 32767, 0, "");
        flags(tier, Code.compare(0, 1), 32768, 0, "s");
        flags(tier, Code.and(0, 1), 65535, 32767, "");
        flags(tier, Code.and(0, 1), 65535, 32768, "s");
    }

    /** "c, for 3, the sum is greater than 65535, for 4 and 5, a is less than b, for 6 not". */
    private static void flagCarry(int tier) {
        flags(tier, Code.add(0, 1), 65534, 1, "s");
        flags(tier, Code.add(0, 1), 65535, 0, "s");
        flags(tier, Code.add(0, 1), 65535, 1, "zc");
        flags(tier, Code.add(0, 1), 65535, 65535, "sc");
        for (int op : new int[] {Code.subtract(0, 1), Code.compare(0, 1)}) {
            flags(tier, op, 8, 7, "");
            flags(tier, op, 7, 7, "z");
            flags(tier, op, 6, 7, "sc");
            flags(tier, op, 0, 65535, "c");
            flags(tier, op, 65535, 0, "s");
        }
        flags(tier, Code.and(0, 1), 1, 3, "");
        flags(tier, Code.and(0, 1), 65535, 65535, "s");
    }

    /** "Ops 3 to 6 set all flags": the others none, whatever they make of a register. */
    private static void flagsStay(int tier) {
        int[][] codes = {{Code.HALT}, {Code.copy(1, 0)}, {Code.constant(0), 0, 0}, {Code.constant(0), 0, 128}, {Code.load(0, 1), 0},
            {Code.store(0, 1), 0}, {Code.ALWAYS, 0}, {Code.IF_ZERO, 0}, {Code.IF_NOT_ZERO, 0}, {Code.CALL, 0}, {Code.RETURN},
            {Code.divide(0, 1)}, {Code.FILL}, {Code.out(0)}};
        int[][] compared = {{1, 0}, {5, 5}, {0, 1}, {0, 65535}, {65535, 0}};
        String[] set = {"", "z", "sc", "c", "s"};
        int[][] values = {{0, 200, 0, 202}, {65535, 1, 2, 202}, {7, 3, 1, 202}};
        for (int[] code : codes) {
            for (int i = 0; i < compared.length; i++) {
                for (int[] registers : values) {
                    HotTranslator x = at(tier, 100, Code.compare(2, 3));
                    Code.put(x, 1, 0, 200, 5, 0);
                    Code.put(x, 101, code);
                    Code.registers(x, 0, 0, compared[i][0], compared[i][1]);
                    x.run(1);
                    Code.registers(x, registers);
                    CHECK.due("op " + (code[0] >> 4) + " leaves the flags", x.run(1) + Code.flags(x), "1" + set[i]);
                }
            }
        }
    }

    /** "With a fault, nothing of the instruction is done, and the place is that of it", also in the middle of a block. */
    private static void nothingIsDoneAtFaults(int tier) {
        int[][] faulty = {{Code.divide(0, 1)}, {Code.load(0, 3), 0}, {Code.store(0, 3), 0}, {Code.CALL, 0}, {Code.RETURN}, {240}};
        for (int[] code : faulty) {
            HotTranslator x = at(tier, 100, Code.compare(0, 1), Code.out(0));
            Code.put(x, 102, code);
            Code.registers(x, 9, 0, 5, 65535);
            CHECK.due("a fault of " + code[0], x.run(9) + " " + x.place() + x.state(), "2 102f");
            CHECK.due("registers at a fault of " + code[0], Code.registersOf(x), "9 0 5 65535");
            CHECK.due("steps and outputs at a fault of " + code[0], x.steps() + " " + x.outputs() + Code.flags(x), "2 1");
        }
    }

    /** "of a fill, what was done stays done". */
    private static void fillStaysDone(int tier) {
        HotTranslator x = at(tier, 100, PLAIN, Code.FILL, Code.HALT);
        Code.registers(x, 7, 253, 9, 0);
        CHECK.due("fill up to 255", x.run(9) + " " + x.place() + x.fault(), "4 101m");
        CHECK.due("fill: registers", Code.registersOf(x), "7 256 6 0");
        CHECK.due("fill: bytes", x.peek(252) + " " + x.peek(253) + " " + x.peek(254) + " " + x.peek(255) + " " + x.peek(0), "0 7 7 7 0");
        CHECK.due("fill: steps", x.steps(), 4L);
        x.setRegister(1, 10);
        x.goTo(101);
        CHECK.due("it can go on", x.run(9) + " " + x.state() + x.peek(9) + x.peek(10) + x.peek(15) + x.peek(16), "7 h0770");
    }

    /** "Each instruction is a step, a halt too, but not one with a fault"; run "Returns how many it made", "but not more". */
    private static void stepsOfInstructions(int tier) {
        HotTranslator x = at(tier, 100, PLAIN, PLAIN, PLAIN, Code.HALT);
        CHECK.due("one less than there are", x.run(3) + " " + x.state() + x.place() + " " + x.steps(), "3 r103 3");
        CHECK.due("the halt", x.run(1) + " " + x.state() + x.place() + " " + x.steps(), "1 h104 4");
        x.goTo(100);
        CHECK.due("as many as there are", x.run(4) + " " + x.state() + x.steps(), "4 h8");
        x.goTo(100);
        CHECK.due("one more than there are", x.run(5) + " " + x.state() + x.steps(), "4 h12");
        x.poke(103, 255);
        x.goTo(100);
        CHECK.due("up to the fault", x.run(3) + " " + x.state() + x.steps(), "3 r15");
        CHECK.due("the fault", x.run(1) + " " + x.state() + x.steps(), "0 f15");
        x.goTo(100);
        CHECK.due("over the fault", x.run(4) + " " + x.state() + x.steps(), "3 f18");
    }

    /** "of a fill, each byte that it writes, or one if there is none; between bytes, the guest stands at the fill". */
    private static void stepsOfFills(int tier) {
        HotTranslator x = at(tier, 100, Code.FILL, Code.HALT);
        Code.registers(x, 7, 20, 3, 0);
        CHECK.due("the first byte", x.run(1) + " " + x.place() + " " + x.register(2), "1 100 2");
        CHECK.due("the second byte", x.run(1) + " " + x.place() + " " + x.register(2), "1 100 1");
        CHECK.due("the last byte", x.run(1) + " " + x.place() + " " + x.register(2), "1 101 0");
        CHECK.due("steps of three bytes", x.steps(), 3L);
        x.goTo(100);
        CHECK.due("no byte", x.run(1) + " " + x.place() + " " + x.register(2) + " " + x.steps(), "1 101 0 4");
        x.setRegister(2, 5);
        x.goTo(100);
        CHECK.due("as many as there are", x.run(5) + " " + x.place() + x.state(), "5 101r");
        x.setRegister(2, 5);
        x.goTo(100);
        CHECK.due("and the halt", x.run(9) + " " + x.place() + x.state(), "6 102h");
        x.setRegister(2, 5);
        x.goTo(100);
        x.run(2);
        x.setRegister(2, 0);
        CHECK.due("none is left", x.run(1) + " " + x.place() + x.state(), "1 101r");
    }

    private static HotTranslator jumping(int tier) {
        HotTranslator x = at(tier, 100, Code.ALWAYS, 8, 0, 0, 0, 0, 0, 0, 0, 0, PLAIN, Code.HALT);
        Code.put(x, 40, PLAIN, Code.HALT);
        x.setRegister(3, 200);
        return x;
    }

    private static String interrupts(HotTranslator x) {
        return x.place() + " " + x.interrupts() + x.waits() + " " + x.register(3);
    }

    /** "this is no step, and is done in the run only if another step may be made"; "also in a later run". */
    private static void interruptsNeedAStep(int tier) {
        HotTranslator x = jumping(tier);
        CHECK.due("asked for", x.interrupt(40), -1);
        CHECK.due("no other step", x.run(1) + " " + interrupts(x), "1 110 0true 200");
        CHECK.due("a later run", x.run(1) + " " + interrupts(x), "1 41 1false 198");
        CHECK.due("it is no step", x.steps(), 2L);
        HotTranslator same = jumping(tier);
        same.interrupt(40);
        CHECK.due("another step", same.run(2) + " " + interrupts(same) + " " + word(same, 198), "2 41 1false 198 110");
        HotTranslator faulty = jumping(tier);
        faulty.poke(40, 255);
        faulty.interrupt(40);
        CHECK.due("another step that is a fault", faulty.run(2) + " " + interrupts(faulty) + faulty.fault(), "1 40 1false 198i");
    }

    /** "is taken when a jump was taken, or op 10 or 11 was done, ahead of the next instruction". */
    private static void interruptsBehindEachWay(int tier) {
        HotTranslator jump = jumping(tier);
        jump.interrupt(40);
        CHECK.due("behind a jump", jump.run(9) + " " + interrupts(jump), "3 42 1false 198");
        HotTranslator call = jumping(tier);
        call.poke(100, Code.CALL);
        call.interrupt(40);
        CHECK.due("behind a call", call.run(9) + " " + interrupts(call) + " " + word(call, 196), "3 42 1false 196 110");
        HotTranslator back = jumping(tier);
        back.poke(100, Code.RETURN);
        back.poke(200, 110);
        back.interrupt(40);
        CHECK.due("behind a return", back.run(9) + " " + interrupts(back) + " " + word(back, 200), "3 42 1false 200 110");
        HotTranslator not = jumping(tier);
        not.poke(100, Code.IF_ZERO);
        not.poke(102, PLAIN);
        not.interrupt(40);
        CHECK.due("behind a jump that is not taken", not.run(9) + " " + interrupts(not), "3 104 0true 200");
        HotTranslator next = jumping(tier);
        next.poke(101, 0);
        next.interrupt(40);
        CHECK.due("behind a jump to the place behind it", next.run(9) + " " + interrupts(next), "3 42 1false 198");
        HotTranslator none = jumping(tier);
        none.goTo(110);
        none.interrupt(40);
        CHECK.due("behind none", none.run(9) + " " + interrupts(none), "2 112 0true 200");
    }

    /** "and also if it was asked for behind the jump", but not behind the next instruction, of which a fill's first byte is some. */
    private static void interruptsAskedForLate(int tier) {
        HotTranslator x = jumping(tier);
        x.run(1);
        x.interrupt(40);
        CHECK.due("asked for behind the jump", x.run(9) + " " + interrupts(x), "2 42 1false 198");
        HotTranslator late = jumping(tier);
        late.run(2);
        late.interrupt(40);
        CHECK.due("asked for behind the next one", late.run(9) + " " + interrupts(late), "1 112 0true 200");
        HotTranslator fill = jumping(tier);
        fill.poke(110, Code.FILL);
        Code.registers(fill, 7, 20, 3);
        fill.run(2);
        fill.interrupt(40);
        CHECK.due("asked for behind a byte of a fill", fill.run(9) + " " + interrupts(fill), "3 112 0true 200");
        HotTranslator set = jumping(tier);
        set.interrupt(40);
        set.run(1);
        set.setRegister(0, 5);
        set.poke(20, 5);
        CHECK.due("poke() and setRegister() between", set.run(9) + " " + interrupts(set), "2 42 1false 198");
    }

    /** interrupt: "the address, 0 to 255". */
    private static void interruptsAtBothEnds(int tier) {
        HotTranslator low = jumping(tier);
        low.poke(0, PLAIN);
        low.interrupt(0);
        CHECK.due("interrupt at 0", low.run(2) + " " + interrupts(low), "2 1 1false 198");
        HotTranslator high = jumping(tier);
        high.poke(255, PLAIN);
        high.interrupt(255);
        CHECK.due("interrupt at 255", high.run(2) + " " + interrupts(high), "2 256 1false 198");
        HotTranslator far = jumping(tier);
        far.poke(101, Code.far(-128));
        far.poke(100, Code.RETURN);
        Code.put(far, 200, 255, 255);
        far.interrupt(40);
        CHECK.due("interrupt behind a way to 65535", far.run(2) + " " + interrupts(far) + " " + word(far, 200), "2 41 1false 200 65535");
    }

    /** "if the word cannot be written, it goes on waiting". */
    private static void interruptsWithoutRoom(int tier) {
        for (int top : new int[] {0, 1, 257, 258, 32768, 65535}) {
            HotTranslator x = jumping(tier);
            x.setRegister(3, top);
            x.interrupt(40);
            String before = memory(x);
            CHECK.due("register 3 at " + top, x.run(9) + " " + interrupts(x), "3 112 0true " + top);
            CHECK.due("memory with register 3 at " + top, memory(x), before);
        }
        for (int top : new int[] {2, 3, 255, 256}) {
            HotTranslator x = jumping(tier);
            x.setRegister(3, top);
            x.interrupt(40);
            CHECK.due("register 3 at " + top, x.run(2) + " " + interrupts(x) + " " + word(x, top - 2), "2 41 1false " + (top - 2) + " 110");
        }
        HotTranslator later = jumping(tier);
        Code.put(later, 110, Code.constant(3), 200, 0, PLAIN, Code.ALWAYS, 0, Code.HALT);
        later.setRegister(3, 1);
        later.interrupt(40);
        CHECK.due("not behind the next instruction", later.run(3) + " " + interrupts(later), "3 114 0true 200");
        CHECK.due("but behind the next jump", later.run(9) + " " + interrupts(later), "3 42 1false 198");
        HotTranslator faulty = jumping(tier);
        faulty.poke(110, 240);
        faulty.setRegister(3, 1);
        faulty.interrupt(40);
        CHECK.due("also behind a fault", faulty.run(9) + " " + interrupts(faulty) + faulty.fault(), "1 110 0true 1i");
        faulty.goTo(100);
        faulty.setRegister(3, 200);
        CHECK.due("up to a jump with room", faulty.run(2) + " " + interrupts(faulty), "2 41 1false 198");
        HotTranslator between = jumping(tier);
        between.setRegister(3, 1);
        between.interrupt(40);
        between.run(1);
        between.setRegister(3, 2);
        CHECK.due("room is made ahead of the later run", between.run(1) + " " + interrupts(between), "1 41 1false 0");
    }

    /** "Asks for an interrupt, in place of one that waits"; "Returns the address of the one that waited, or -1". */
    private static void interruptsInPlaceOfOthers(int tier) {
        HotTranslator x = jumping(tier);
        CHECK.due("none waits", x.waits() + " " + x.interrupts(), "false 0");
        CHECK.due("in place of none", x.interrupt(0) + " " + x.waits(), "-1 true");
        CHECK.due("in place of that at 0", x.interrupt(60) + " " + x.waits(), "0 true");
        CHECK.due("in place of that at 60", x.interrupt(40) + " " + x.waits(), "60 true");
        CHECK.due("one is taken", x.run(9) + " " + interrupts(x), "3 42 1false 198");
        CHECK.due("in place of one that was taken", x.interrupt(60), -1);
        CHECK.due("the guest that halted has one that waits", x.waits() + "" + x.state(), "trueh");
    }

    /** "goTo() is no jump ..; a jump ahead of goTo() counts no more". */
    private static void goToIsNoJump(int tier) {
        HotTranslator x = jumping(tier);
        x.interrupt(40);
        x.goTo(110);
        CHECK.due("goTo", x.run(9) + " " + interrupts(x), "2 112 0true 200");
        HotTranslator ahead = jumping(tier);
        ahead.interrupt(40);
        ahead.run(1);
        ahead.goTo(110);
        CHECK.due("a jump ahead of goTo", ahead.run(9) + " " + interrupts(ahead), "2 112 0true 200");
        HotTranslator same = jumping(tier);
        same.run(1);
        same.goTo(same.place());
        same.interrupt(40);
        CHECK.due("a goTo to the same place", same.run(9) + " " + interrupts(same), "2 112 0true 200");
        HotTranslator again = jumping(tier);
        again.interrupt(40);
        again.goTo(110);
        again.goTo(100);
        CHECK.due("a jump behind goTo", again.run(2) + " " + interrupts(again), "2 41 1false 198");
    }

    /** "neither is taking an interrupt". */
    private static void interruptsAreNoJumps(int tier) {
        HotTranslator x = jumping(tier);
        Code.put(x, 40, Code.divide(1, 1));
        x.interrupt(40);
        x.run(9);
        CHECK.due("at a fault behind an interrupt", interrupts(x) + x.fault(), "40 1false 198d");
        HotTranslator y = jumping(tier);
        Code.put(y, 40, PLAIN, Code.RETURN);
        y.interrupt(40);
        y.run(2);
        y.interrupt(60);
        CHECK.due("the next one waits for the return", y.run(1) + " " + interrupts(y), "1 110 1true 200");
        CHECK.due("and is taken behind it", y.run(1) + " " + interrupts(y), "1 61 2false 198");
    }

    /** goTo: "it is ready then, and has no fault"; "Returns the address before", up to 65535. */
    private static void readyAgain(int tier) {
        HotTranslator x = at(tier, 0, Code.ALWAYS, Code.far(-3));
        x.run(1);
        CHECK.due("a place that is none", x.place() + "" + x.state(), "65535r");
        CHECK.due("goTo from there", x.goTo(0), 65535);
        x.run(9);
        CHECK.due("a fault there", x.state() + "" + x.fault() + x.place(), "fx65535");
        CHECK.due("goTo from the fault", x.goTo(50) + "" + x.state(), "65535r");
        CHECK.due("run again", x.run(9) + "" + x.state() + x.place(), "1h51");
        CHECK.due("goTo from the halt", x.goTo(255) + "" + x.state(), "51r");
        CHECK.due("at the last address", x.run(9) + "" + x.state() + x.place(), "1h256");
        HotTranslator stays = at(tier, 100, 240);
        stays.run(1);
        HotTranslator halted = at(tier, 100, Code.HALT, Code.HALT);
        halted.run(1);
        for (HotTranslator y : new HotTranslator[] {stays, halted}) {
            y.poke(100, PLAIN);
            y.poke(101, PLAIN);
            y.setRegister(3, 200);
            y.interrupt(40);
            y.flush();
            y.setTier(1);
        }
        CHECK.due("a fault stays up to goTo", stays.state() + " " + stays.fault() + stays.place(), "f i100");
        CHECK.due("a halt stays up to goTo", halted.state() + " " + halted.place(), "h 101");
    }

    /** "An object is used for at most 512 calls": as many steps and outputs as these can make. */
    private static void manyCalls(int tier) {
        HotTranslator x = at(tier, 0, Code.out(0), Code.ALWAYS, Code.far(-3));
        for (int call = 0; call < 500; call++) {
            x.run(500);
        }
        CHECK.due("steps of 500 runs", x.steps() + " " + x.outputs() + " " + x.isSound(), "250000 125000 true");
        CHECK.due("the last 200 are kept", x.output(199), 0);
    }
}
