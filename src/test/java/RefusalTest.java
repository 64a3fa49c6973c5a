import java.util.NoSuchElementException;

/**
 * Each "Throws" sentence of promises 1 to 41, at both sides of its limit, and "A method that throws an exception
 * changes nothing": each refused call is made on one of two like objects, which must stay alike and go on alike.
 */
public final class RefusalTest {
    private static final Class<IndexOutOfBoundsException> BOUNDS = IndexOutOfBoundsException.class;
    private static final Class<IllegalArgumentException> ARGUMENT = IllegalArgumentException.class;
    private static final Class<IllegalStateException> STATE = IllegalStateException.class;
    private static final Class<NoSuchElementException> NO_ELEMENT = NoSuchElementException.class;
    private static final Class<ArithmeticException> ARITHMETIC = ArithmeticException.class;
    private static final int[] NO_BYTES = {-1, 256, 65536, Integer.MIN_VALUE, Integer.MAX_VALUE};
    private static final int[] NO_WORDS = {-1, 65536, Integer.MIN_VALUE, Integer.MAX_VALUE};
    private static final int[] NO_REGISTERS = {-1, 4, Integer.MIN_VALUE, Integer.MAX_VALUE};
    private static final int[] NO_TIERS = {-1, 3, Integer.MIN_VALUE, Integer.MAX_VALUE};
    private static final int NEW = 0;
    private static final int BUSY = 1;
    private static final int HALTED = 2;
    private static final int FAULTY = 3;
    private static final int STATES = 4;
    private static final Check CHECK = new Check("RefusalTest");

    /** A call of the face. */
    private interface Call {
        Object on(HotTranslator x);
    }

    public static void main(String[] args) {
        states();
        addresses();
        values();
        registers();
        flags();
        limitsOfRuns();
        statesOfRuns();
        faults();
        outputs();
        settings();
        blocksThatNeverWere();
        blocksThatAreNotKept();
        linksThatAreNotThere();
        placesWithoutBlocks();
        figuresOfNone();
        firstOfSeveral();
        CHECK.end();
    }

    /** A guest that runs a loop as a long block and stands behind a jump with an interrupt that waits. */
    private static HotTranslator busy() {
        HotTranslator x = Code.with(Code.out(0), Code.add(0, 1), Code.add(0, 1), Code.ALWAYS, 11);
        Code.put(x, 16, Code.subtract(2, 1), Code.IF_NOT_ZERO, Code.far(-19), Code.HALT);
        Code.put(x, 40, Code.copy(0, 0), Code.RETURN);
        Code.put(x, 60, Code.HALT);
        Code.registers(x, 7, 1, 200, 200);
        x.setTier(2);
        x.setHot(3);
        x.setCache(6);
        x.goTo(60);
        x.run(1);
        x.poke(60, 255);
        x.goTo(0);
        x.run(24);
        x.interrupt(40);
        return x;
    }

    private static HotTranslator in(int state) {
        if (state == NEW) {
            return new HotTranslator();
        }
        HotTranslator x = busy();
        if (state == HALTED) {
            x.goTo(19);
            x.run(1);
        } else if (state == FAULTY) {
            x.goTo(60);
            x.run(1);
        }
        return x;
    }

    private static void states() {
        CHECK.due("new", Told.counts(in(NEW)) + in(NEW).state(), "0 0 0 0 0 0 0r");
        HotTranslator x = in(BUSY);
        CHECK.due("busy", Told.counts(x) + x.state() + x.place() + x.waits(), "3 2 4 3 1 0 1r0true");
        CHECK.due("busy: parts", x.partsOf(1), 2);
        CHECK.due("busy: outputs and skipped", x.outputs() + " " + x.skipped(), "4 4");
        CHECK.due("halted", in(HALTED).state(), 'h');
        CHECK.due("faulty", in(FAULTY).state() + "" + in(FAULTY).fault(), "fi");
    }

    /** Lets an object go on, and tells what it answers on the way. */
    private static String goOn(HotTranslator x) {
        StringBuilder told = new StringBuilder();
        if (x.state() != 'r') {
            told.append(x.goTo(0));
        }
        told.append(' ').append(x.run(9)).append(' ').append(x.interrupt(3)).append(' ').append(x.setTier(1));
        told.append(' ').append(x.setCache(2)).append(' ').append(x.setHot(2)).append(' ').append(x.goTo(0));
        told.append(' ').append(x.run(30)).append(' ').append(x.setTier(2)).append(' ').append(Told.all(x));
        return told.toString();
    }

    /** The call is refused in this state, and leaves no trace. */
    private static void refuse(String what, Class<? extends RuntimeException> want, int state, Call call) {
        HotTranslator x = in(state);
        HotTranslator twin = in(state);
        String name = what + " in state " + state;
        CHECK.dueThrow(name, want, () -> call.on(x));
        CHECK.due(name + " changes nothing", Told.all(x), Told.all(twin));
        CHECK.due(name + " changes nothing later", goOn(x), goOn(twin));
    }

    private static void refuseAlways(String what, Class<? extends RuntimeException> want, Call call) {
        for (int state = 0; state < STATES; state++) {
            refuse(what, want, state, call);
        }
    }

    private static void grant(String what, Object want, int state, Call call) {
        CHECK.due(what + " in state " + state, call.on(in(state)), want);
    }

    /** "Throws IndexOutOfBoundsException if there is no such address": poke, peek, goTo, interrupt, blockAt. */
    private static void addresses() {
        for (int address : NO_BYTES) {
            refuseAlways("poke at " + address, BOUNDS, x -> x.poke(address, 1));
            refuseAlways("peek at " + address, BOUNDS, x -> x.peek(address));
            refuseAlways("goTo " + address, BOUNDS, x -> x.goTo(address));
            refuseAlways("interrupt at " + address, BOUNDS, x -> x.interrupt(address));
            refuseAlways("blockAt " + address, BOUNDS, x -> x.blockAt(address));
        }
        for (int state = 0; state < STATES; state++) {
            int place = state == HALTED ? 20 : state == FAULTY ? 60 : 0;
            for (int address = 0; address <= 255; address += 255) {
                int at = address;
                int here = state == NEW || at == 255 ? 0 : Code.out(0);
                grant("poke at " + at, here, state, x -> x.poke(at, 1));
                grant("peek at " + at, here, state, x -> x.peek(at));
                grant("goTo " + at, place, state, x -> x.goTo(at));
                grant("interrupt at " + at, state == NEW ? -1 : 40, state, x -> x.interrupt(at));
            }
        }
        HotTranslator x = Code.with(Code.copy(0, 0));
        x.run(1);
        x.goTo(255);
        x.run(1);
        CHECK.due("blockAt 0 and 255", x.blockAt(0) + " " + x.blockAt(255), "0 1");
    }

    /** "Throws IllegalArgumentException if the value is out of range": poke, setRegister. */
    private static void values() {
        for (int value : NO_BYTES) {
            refuseAlways("poke of " + value, ARGUMENT, x -> x.poke(16, value));
        }
        for (int value : NO_WORDS) {
            refuseAlways("setRegister to " + value, ARGUMENT, x -> x.setRegister(1, value));
        }
        for (int value = 0; value <= 255; value++) {
            HotTranslator x = new HotTranslator();
            CHECK.due("poke of " + value, x.poke(9, value) + " " + x.peek(9) + " " + x.poke(9, 0), "0 " + value + " " + value);
        }
        for (int value : new int[] {0, 1, 32767, 32768, 65535}) {
            HotTranslator x = new HotTranslator();
            CHECK.due("setRegister to " + value, x.setRegister(2, value) + " " + x.register(2), "0 " + value);
            CHECK.due("setRegister behind " + value, x.setRegister(2, 0), value);
        }
    }

    /** "Throws IndexOutOfBoundsException if there is no such register": setRegister, register. */
    private static void registers() {
        for (int register : NO_REGISTERS) {
            refuseAlways("setRegister " + register, BOUNDS, x -> x.setRegister(register, 1));
            refuseAlways("register " + register, BOUNDS, x -> x.register(register));
        }
        HotTranslator x = new HotTranslator();
        for (int register = 0; register < 4; register++) {
            x.setRegister(register, 10 + register);
        }
        CHECK.due("registers 0 to 3", Code.registersOf(x), "10 11 12 13");
    }

    /** "Throws IllegalArgumentException if there is no such flag". */
    private static void flags() {
        for (char flag : new char[] {0, 'y', '{', 'Z', 'r', 't', 'S', 'b', 'd', 'C', ' ', 255, 65535, 'z' + 256}) {
            refuseAlways("flag " + (int) flag, ARGUMENT, x -> x.flag(flag));
        }
        for (char flag : new char[] {'z', 's', 'c'}) {
            grant("flag " + flag, false, NEW, x -> x.flag(flag));
        }
    }

    /** "Throws IllegalArgumentException if the number is out of range": run 1 to 500, isSameBy 1 to 200, tiers 0 to 2. */
    private static void limitsOfRuns() {
        for (int steps : new int[] {0, -1, 501, Integer.MIN_VALUE, Integer.MAX_VALUE}) {
            refuseAlways("run of " + steps, ARGUMENT, x -> x.run(steps));
        }
        for (int steps : new int[] {0, -1, 201, 500, Integer.MIN_VALUE, Integer.MAX_VALUE}) {
            refuseAlways("isSameBy with steps " + steps, ARGUMENT, x -> x.isSameBy(1, steps));
        }
        for (int tier : NO_TIERS) {
            refuseAlways("isSameBy with tier " + tier, ARGUMENT, x -> x.isSameBy(tier, 5));
        }
        grant("run of 1", 1, BUSY, x -> x.run(1));
        for (int tier = 0; tier <= 2; tier++) {
            int by = tier;
            HotTranslator x = Code.with(Code.ALWAYS, Code.far(-2));
            x.setTier(tier);
            CHECK.due("run of 1 by tier " + tier, x.run(1), 1);
            CHECK.due("run of 500 by tier " + tier, x.run(500), 500);
            for (int state = 0; state <= BUSY; state++) {
                grant("isSameBy with 1 step", true, state, y -> y.isSameBy(by, 1));
                grant("isSameBy with 200 steps", true, state, y -> y.isSameBy(by, 200));
            }
        }
    }

    /** "Throws IllegalStateException if the state is not 'r'": run, isSameBy. */
    private static void statesOfRuns() {
        for (int state = HALTED; state <= FAULTY; state++) {
            refuse("run of 1", STATE, state, x -> x.run(1));
            refuse("run of 500", STATE, state, x -> x.run(500));
            for (int tier = 0; tier <= 2; tier++) {
                int by = tier;
                refuse("isSameBy with 1 step", STATE, state, x -> x.isSameBy(by, 1));
                refuse("isSameBy with 200 steps", STATE, state, x -> x.isSameBy(by, 200));
            }
        }
    }

    /** "Throws NoSuchElementException if it has none". */
    private static void faults() {
        refuse("fault", NO_ELEMENT, NEW, HotTranslator::fault);
        refuse("fault", NO_ELEMENT, BUSY, HotTranslator::fault);
        refuse("fault", NO_ELEMENT, HALTED, HotTranslator::fault);
        grant("fault", 'i', FAULTY, HotTranslator::fault);
        HotTranslator x = in(FAULTY);
        x.goTo(19);
        CHECK.dueThrow("fault behind goTo", NO_ELEMENT, x::fault);
        x.run(1);
        CHECK.dueThrow("fault of a guest that halted later", NO_ELEMENT, x::fault);
    }

    /** "Throws IndexOutOfBoundsException if it is not kept": of no outputs, of four, and of more than 200. */
    private static void outputs() {
        for (int index : new int[] {0, 1, -1, 199, 200, Integer.MIN_VALUE, Integer.MAX_VALUE}) {
            refuse("output " + index, BOUNDS, NEW, x -> x.output(index));
        }
        for (int index : new int[] {4, 5, -1, 199, 200, Integer.MIN_VALUE, Integer.MAX_VALUE}) {
            refuse("output " + index, BOUNDS, BUSY, x -> x.output(index));
        }
        grant("output 0 of four", 13, BUSY, x -> x.output(0));
        grant("output 3 of four", 7, BUSY, x -> x.output(3));
        HotTranslator x = Code.with(Code.out(0), Code.add(0, 1), Code.ALWAYS, Code.far(-4));
        x.setRegister(1, 1);
        int[] counts = {1, 199, 200, 201, 399, 400, 401, 512};
        for (int count : counts) {
            for (int turn = 0; turn < 600 && x.outputs() < count; turn++) {
                x.run(1);
            }
            int kept = Math.min(200, count);
            CHECK.due("outputs", x.outputs(), count);
            CHECK.due("the last of " + count, x.output(0), count - 1);
            CHECK.due("the earliest kept of " + count, x.output(kept - 1), count - kept);
            CHECK.dueThrow("one more of " + count, BOUNDS, () -> x.output(kept));
            CHECK.dueThrow("all of " + count, BOUNDS, () -> x.output(Math.max(kept, count - 1)));
            CHECK.dueThrow("output -1 of " + count, BOUNDS, () -> x.output(-1));
        }
    }

    /** "Throws IllegalArgumentException if there is no such tier", or "if it is out of range": the settings. */
    private static void settings() {
        for (int tier : NO_TIERS) {
            refuseAlways("setTier " + tier, ARGUMENT, x -> x.setTier(tier));
        }
        for (int size : new int[] {0, -1, 13, Integer.MIN_VALUE, Integer.MAX_VALUE}) {
            refuseAlways("setCache " + size, ARGUMENT, x -> x.setCache(size));
        }
        for (int entries : new int[] {1, 0, -1, 51, Integer.MIN_VALUE, Integer.MAX_VALUE}) {
            refuseAlways("setHot " + entries, ARGUMENT, x -> x.setHot(entries));
        }
        HotTranslator x = new HotTranslator();
        CHECK.due("tiers, 1 at first", x.setTier(0) + " " + x.setTier(2) + " " + x.setTier(1) + " " + x.setTier(1), "1 0 2 1");
        CHECK.due("cache, 8 at first", x.setCache(1) + " " + x.setCache(12) + " " + x.setCache(12), "8 1 12");
        CHECK.due("hot, 4 at first", x.setHot(2) + " " + x.setHot(50) + " " + x.setHot(50), "4 2 50");
    }

    private static void refuseBlock(int block, Class<? extends RuntimeException> want, int state) {
        refuse("startOf " + block, want, state, x -> x.startOf(block));
        refuse("lengthOf " + block, want, state, x -> x.lengthOf(block));
        refuse("bytesOf " + block, want, state, x -> x.bytesOf(block));
        refuse("entries " + block, want, state, x -> x.entries(block));
        refuse("linkOf taken " + block, want, state, x -> x.linkOf(block, true));
        refuse("linkOf behind " + block, want, state, x -> x.linkOf(block, false));
        refuse("partsOf " + block, want, state, x -> x.partsOf(block));
    }

    /** "Throws IndexOutOfBoundsException if there never was such a block". */
    private static void blocksThatNeverWere() {
        for (int state = 0; state < STATES; state++) {
            int made = in(state).made();
            for (int block : new int[] {made, made + 1, -1, Integer.MIN_VALUE, Integer.MAX_VALUE}) {
                refuse("isKept " + block, BOUNDS, state, x -> x.isKept(block));
                refuseBlock(block, BOUNDS, state);
            }
        }
        grant("isKept of the last one", true, BUSY, x -> x.isKept(2));
        grant("startOf the last one", 16, BUSY, x -> x.startOf(2));
        grant("isKept of the first one", false, BUSY, x -> x.isKept(0));
    }

    /** "Throws NoSuchElementException if it is not kept". */
    private static void blocksThatAreNotKept() {
        refuseBlock(0, NO_ELEMENT, BUSY);
        HotTranslator x = busy();
        x.flush();
        for (int block = 0; block < 3; block++) {
            int gone = block;
            CHECK.due("isKept behind a flush", x.isKept(block), false);
            CHECK.dueThrow("startOf behind a flush", NO_ELEMENT, () -> x.startOf(gone));
            CHECK.dueThrow("partsOf behind a flush", NO_ELEMENT, () -> x.partsOf(gone));
        }
        CHECK.dueThrow("startOf 3 behind a flush", BOUNDS, () -> x.startOf(3));
    }

    /** "Throws NoSuchElementException if it is not kept, or has no such link". */
    private static void linksThatAreNotThere() {
        refuse("linkOf the way that was not gone", NO_ELEMENT, BUSY, x -> x.linkOf(1, false));
        refuse("linkOf the other one", NO_ELEMENT, BUSY, x -> x.linkOf(2, false));
        grant("linkOf the way that was gone", 2, BUSY, x -> x.linkOf(1, true));
        HotTranslator x = new HotTranslator();
        x.run(1);
        CHECK.dueThrow("linkOf a halt, taken", NO_ELEMENT, () -> x.linkOf(0, true));
        CHECK.dueThrow("linkOf a halt, behind", NO_ELEMENT, () -> x.linkOf(0, false));
    }

    /** "Throws NoSuchElementException if none is kept". */
    private static void placesWithoutBlocks() {
        refuse("blockAt 0", NO_ELEMENT, NEW, x -> x.blockAt(0));
        refuse("blockAt within a block", NO_ELEMENT, BUSY, x -> x.blockAt(1));
        refuse("blockAt where one was", NO_ELEMENT, BUSY, x -> x.blockAt(60));
        grant("blockAt 0", 1, BUSY, x -> x.blockAt(0));
        grant("blockAt 16", 2, BUSY, x -> x.blockAt(16));
    }

    /** "Throws ArithmeticException if there were none", and "if none was made". */
    private static void figuresOfNone() {
        refuse("chainShare", ARITHMETIC, NEW, HotTranslator::chainShare);
        refuse("meanLength", ARITHMETIC, NEW, HotTranslator::meanLength);
        HotTranslator plain = Code.with(Code.ALWAYS, Code.far(-2));
        plain.isSameBy(2, 50);
        plain.setTier(0);
        plain.run(50);
        CHECK.dueThrow("chainShare by tier 0", ARITHMETIC, plain::chainShare);
        CHECK.dueThrow("meanLength by tier 0", ARITHMETIC, plain::meanLength);
        plain.setTier(1);
        plain.run(1);
        CHECK.due("figures of one block", plain.chainShare() + " " + plain.meanLength(), "0.0 1.0");
        plain.flush();
        CHECK.due("figures of one block that has gone", plain.chainShare() + " " + plain.meanLength(), "0.0 1.0");
    }

    /** "If several exceptions apply, the one that is documented first is thrown." */
    private static void firstOfSeveral() {
        refuseAlways("poke of 256 at 256", BOUNDS, x -> x.poke(256, 256));
        refuseAlways("poke of -1 at -1", BOUNDS, x -> x.poke(-1, -1));
        refuseAlways("setRegister 4 to 65536", BOUNDS, x -> x.setRegister(4, 65536));
        refuseAlways("setRegister -1 to -1", BOUNDS, x -> x.setRegister(-1, -1));
        for (int state = HALTED; state <= FAULTY; state++) {
            refuse("run of 0 steps", ARGUMENT, state, x -> x.run(0));
            refuse("run of 501 steps", ARGUMENT, state, x -> x.run(501));
            refuse("isSameBy with 0 steps", ARGUMENT, state, x -> x.isSameBy(0, 0));
            refuse("isSameBy with 201 steps", ARGUMENT, state, x -> x.isSameBy(2, 201));
            refuse("isSameBy with tier 3", ARGUMENT, state, x -> x.isSameBy(3, 1));
        }
        refuse("linkOf a block that never was", BOUNDS, NEW, x -> x.linkOf(0, true));
        refuse("blockAt 256 without blocks", BOUNDS, NEW, x -> x.blockAt(256));
    }
}
