import java.util.NoSuchElementException;

/** Promises 1 to 16: the guest, by each tier. */
public final class GuestTest {
    private static final Class<IndexOutOfBoundsException> BOUNDS = IndexOutOfBoundsException.class;
    private static final Class<IllegalArgumentException> ARGUMENT = IllegalArgumentException.class;
    private static final Class<IllegalStateException> STATE = IllegalStateException.class;
    private static final Class<NoSuchElementException> NO_ELEMENT = NoSuchElementException.class;
    private static final Check CHECK = new Check("GuestTest");

    public static void main(String[] args) {
        newObject();
        pokeAndPeek();
        setRegisterAndRegister();
        flagNames();
        for (int tier = 0; tier <= 2; tier++) {
            placeAndGoTo(tier);
            moves(tier);
            sums(tier);
            memoryOps(tier);
            memoryFaults(tier);
            jumps(tier);
            callsAndReturns(tier);
            divisions(tier);
            fills(tier);
            fillFaults(tier);
            outputs(tier);
            noInstruction(tier);
            codeOutside(tier);
            runLimits(tier);
            interrupts(tier);
            interruptsAndGoTo(tier);
            interruptsThatCannotBeWritten(tier);
            interruptsAndFills(tier);
            ownCodeWritten(tier);
        }
        CHECK.end();
    }

    private static HotTranslator with(int tier, int... bytes) {
        HotTranslator guest = Code.with(bytes);
        guest.setTier(tier);
        return guest;
    }

    private static void newObject() {
        HotTranslator guest = new HotTranslator();
        for (int i = 0; i < 256; i++) {
            CHECK.due("new: peek " + i, guest.peek(i), 0);
        }
        CHECK.due("new: registers", Code.registersOf(guest), "0 0 0 0");
        CHECK.due("new: flags", Code.flags(guest), "");
        CHECK.due("new: place", guest.place(), 0);
        CHECK.due("new: state", guest.state(), 'r');
        CHECK.dueThrow("new: fault", NO_ELEMENT, guest::fault);
        CHECK.due("new: interrupts", guest.interrupts(), 0);
        CHECK.due("new: waits", guest.waits(), false);
        CHECK.due("new: outputs", guest.outputs(), 0);
        CHECK.due("new: blocks", guest.blocks(), 0);
        CHECK.due("new: made", guest.made(), 0);
        CHECK.due("new: lookUps", guest.lookUps(), 0);
        CHECK.due("new: chained", guest.chained(), 0);
        CHECK.due("new: longBlocks", guest.longBlocks(), 0);
        CHECK.due("new: sideExits", guest.sideExits(), 0);
        CHECK.due("new: discarded", guest.discarded(), 0);
        CHECK.due("new: skipped", guest.skipped(), 0);
        CHECK.due("new: steps", guest.steps(), 0L);
        CHECK.due("new: isSound", guest.isSound(), true);
    }

    private static void pokeAndPeek() {
        HotTranslator guest = new HotTranslator();
        CHECK.due("poke 0", guest.poke(0, 255), 0);
        CHECK.due("poke 0 again", guest.poke(0, 7), 255);
        CHECK.due("poke 255", guest.poke(255, 9), 0);
        CHECK.due("peek 0", guest.peek(0), 7);
        CHECK.due("peek 255", guest.peek(255), 9);
        CHECK.due("peek 1", guest.peek(1), 0);
        CHECK.dueThrow("poke -1", BOUNDS, () -> guest.poke(-1, 0));
        CHECK.dueThrow("poke 256", BOUNDS, () -> guest.poke(256, 0));
        CHECK.dueThrow("poke least address", BOUNDS, () -> guest.poke(Integer.MIN_VALUE, 0));
        CHECK.dueThrow("poke both wrong", BOUNDS, () -> guest.poke(256, 256));
        CHECK.dueThrow("poke value 256", ARGUMENT, () -> guest.poke(0, 256));
        CHECK.dueThrow("poke value -1", ARGUMENT, () -> guest.poke(0, -1));
        CHECK.due("peek 0 behind a wrong poke", guest.peek(0), 7);
        CHECK.dueThrow("peek -1", BOUNDS, () -> guest.peek(-1));
        CHECK.dueThrow("peek 256", BOUNDS, () -> guest.peek(256));
    }

    private static void setRegisterAndRegister() {
        HotTranslator guest = new HotTranslator();
        CHECK.due("setRegister 0", guest.setRegister(0, 65535), 0);
        CHECK.due("setRegister 0 again", guest.setRegister(0, 1), 65535);
        CHECK.due("setRegister 3", guest.setRegister(3, 4), 0);
        CHECK.due("registers", Code.registersOf(guest), "1 0 0 4");
        CHECK.dueThrow("setRegister -1", BOUNDS, () -> guest.setRegister(-1, 0));
        CHECK.dueThrow("setRegister 4", BOUNDS, () -> guest.setRegister(4, 0));
        CHECK.dueThrow("setRegister both wrong", BOUNDS, () -> guest.setRegister(4, 65536));
        CHECK.dueThrow("setRegister 65536", ARGUMENT, () -> guest.setRegister(0, 65536));
        CHECK.dueThrow("setRegister to -1", ARGUMENT, () -> guest.setRegister(0, -1));
        CHECK.due("register 0 behind a wrong setRegister", guest.register(0), 1);
        CHECK.dueThrow("register -1", BOUNDS, () -> guest.register(-1));
        CHECK.dueThrow("register 4", BOUNDS, () -> guest.register(4));
    }

    private static void flagNames() {
        HotTranslator guest = new HotTranslator();
        for (char name = 0; name < 300; name++) {
            char flag = name;
            if (flag == 'z' || flag == 's' || flag == 'c') {
                CHECK.due("flag " + flag, guest.flag(flag), false);
            } else {
                CHECK.dueThrow("flag " + (int) flag, ARGUMENT, () -> guest.flag(flag));
            }
        }
    }

    private static void placeAndGoTo(int tier) {
        HotTranslator guest = with(tier, 255);
        CHECK.due("goTo 9", guest.goTo(9), 0);
        CHECK.due("place", guest.place(), 9);
        CHECK.due("goTo 255", guest.goTo(255), 9);
        CHECK.due("goTo 0", guest.goTo(0), 255);
        CHECK.dueThrow("goTo -1", BOUNDS, () -> guest.goTo(-1));
        CHECK.dueThrow("goTo 256", BOUNDS, () -> guest.goTo(256));
        CHECK.due("place behind a wrong goTo", guest.place(), 0);
        CHECK.due("run into a fault", guest.run(1), 0);
        CHECK.due("state", guest.state(), 'f');
        CHECK.dueThrow("wrong goTo at a fault", BOUNDS, () -> guest.goTo(256));
        CHECK.due("state behind a wrong goTo", guest.state(), 'f');
        CHECK.due("goTo behind a fault", guest.goTo(4), 0);
        CHECK.due("state behind goTo", guest.state(), 'r');
        CHECK.dueThrow("fault behind goTo", NO_ELEMENT, guest::fault);
        CHECK.due("run to a halt", guest.run(9), 1);
        CHECK.due("state halted", guest.state(), 'h');
        CHECK.due("place behind the halt", guest.place(), 5);
        CHECK.dueThrow("fault of a halted guest", NO_ELEMENT, guest::fault);
        guest.goTo(4);
        CHECK.due("ready again", guest.state(), 'r');
    }

    private static void moves(int tier) {
        HotTranslator guest = with(tier, Code.constant(2), 0x34, 0x12, Code.copy(1, 2), Code.constant(3), 255, 255);
        CHECK.due("moves", guest.run(3), 3);
        CHECK.due("moves: registers", Code.registersOf(guest), "0 4660 4660 65535");
        CHECK.due("moves: place", guest.place(), 7);
        CHECK.due("moves: flags", Code.flags(guest), "");
    }

    private static void sums(int tier) {
        sum(tier, Code.add(0, 1), 1, 2, 3, "");
        sum(tier, Code.add(0, 1), 65535, 1, 0, "zc");
        sum(tier, Code.add(0, 1), 65535, 65535, 65534, "sc");
        sum(tier, Code.add(0, 1), 32767, 1, 32768, "s");
        sum(tier, Code.add(0, 1), 0, 0, 0, "z");
        sum(tier, Code.add(0, 1), 65534, 1, 65535, "s");
        sum(tier, Code.subtract(0, 1), 3, 2, 1, "");
        sum(tier, Code.subtract(0, 1), 2, 3, 65535, "sc");
        sum(tier, Code.subtract(0, 1), 7, 7, 0, "z");
        sum(tier, Code.subtract(0, 1), 0, 65535, 1, "c");
        sum(tier, Code.subtract(0, 1), 65535, 32767, 32768, "s");
        sum(tier, Code.compare(0, 1), 3, 2, 3, "");
        sum(tier, Code.compare(0, 1), 2, 3, 2, "sc");
        sum(tier, Code.compare(0, 1), 7, 7, 7, "z");
        sum(tier, Code.and(0, 1), 12, 10, 8, "");
        sum(tier, Code.and(0, 1), 5, 10, 0, "z");
        sum(tier, Code.and(0, 1), 65535, 40000, 40000, "s");
        HotTranslator same = with(tier, Code.subtract(2, 2), Code.add(1, 1));
        Code.registers(same, 1, 40000, 5, 7);
        same.run(1);
        CHECK.due("a register less itself", Code.registersOf(same) + Code.flags(same), "1 40000 0 7z");
        same.run(1);
        CHECK.due("a register twice", Code.registersOf(same) + Code.flags(same), "1 14464 0 7c");
    }

    private static void sum(int tier, int code, int left, int right, int result, String flags) {
        HotTranslator guest = with(tier, code);
        Code.registers(guest, left, right);
        String what = "op " + (code >> 4) + " of " + left + " and " + right;
        CHECK.due(what + ": run", guest.run(1), 1);
        CHECK.due(what, guest.register(0) + " " + guest.register(1), result + " " + right);
        CHECK.due(what + ": flags", Code.flags(guest), flags);
    }

    private static void memoryOps(int tier) {
        HotTranslator guest = with(tier, Code.store(0, 1), 255, Code.load(2, 3), 4, Code.load(1, 0), 196);
        Code.registers(guest, 0xABCD, 65535, 0, 250);
        CHECK.due("store and load", guest.run(2), 2);
        CHECK.due("stored, the lower half first", guest.peek(254) * 256 + guest.peek(255), 0xCDAB);
        CHECK.due("loaded", guest.register(2), 0xABCD);
        guest.setRegister(0, 59);
        guest.goTo(4);
        CHECK.due("load at 255", guest.run(1), 0);
        CHECK.due("load at 255: fault", guest.fault(), 'm');
        guest.setRegister(0, 65536 + 2 - 196);
        guest.goTo(4);
        CHECK.due("load at a sum modulo 65536", guest.run(1), 1);
        CHECK.due("loaded at 2", guest.register(1), Code.load(2, 3) + 256 * 4);
        CHECK.due("flags of memory ops", Code.flags(guest), "");
        HotTranslator around = with(tier, Code.load(1, 0), 255, Code.HALT);
        around.poke(0xFE, 0x11);
        around.poke(0xFF, 0x22);
        around.setRegister(0, 65535);
        CHECK.due("load around", around.run(1), 1);
        CHECK.due("load around at 254", around.register(1), 0x2211);
    }

    private static void memoryFaults(int tier) {
        HotTranslator guest = with(tier, Code.copy(1, 0), Code.store(2, 0), 0, Code.HALT);
        Code.registers(guest, 255, 5, 0x1234, 0);
        CHECK.due("store at 255", guest.run(5), 1);
        CHECK.due("store at 255: state", guest.state(), 'f');
        CHECK.due("store at 255: fault", guest.fault(), 'm');
        CHECK.due("store at 255: place", guest.place(), 1);
        CHECK.due("store at 255: nothing done", guest.peek(255), 0);
        CHECK.due("store at 255: steps", guest.steps(), 1L);
        CHECK.dueThrow("run at a fault", STATE, () -> guest.run(1));
        HotTranslator load = with(tier, Code.load(0, 0), 1);
        load.setRegister(0, 254);
        CHECK.due("load at 255", load.run(5), 0);
        CHECK.due("load at 255: fault", load.fault(), 'm');
        CHECK.due("load at 255: register", load.register(0), 254);
        HotTranslator far = with(tier, Code.load(0, 1), 1);
        far.setRegister(1, 40000);
        CHECK.due("load at 40001", far.run(5), 0);
        CHECK.due("load at 40001: fault", far.fault(), 'm');
    }

    private static void jumps(int tier) {
        int[] codes = {Code.ALWAYS, Code.IF_ZERO, Code.IF_NOT_ZERO, Code.IF_CARRY, Code.IF_NO_CARRY, Code.IF_SIGN, Code.IF_NO_SIGN};
        String[] takenWhen = {"", "z", "-z", "c", "-c", "s", "-s"};
        int[][] compared = {{1, 0}, {5, 5}, {1, 2}, {65535, 1}, {0, 65535}};
        String[] flagsOf = {"", "z", "sc", "s", "c"};
        for (int i = 0; i < codes.length; i++) {
            for (int j = 0; j < compared.length; j++) {
                HotTranslator guest = with(tier, Code.compare(0, 1), codes[i], 10);
                Code.registers(guest, compared[j]);
                guest.run(2);
                String want = takenWhen[i];
                boolean isTaken = want.isEmpty() || (want.charAt(0) == '-' ? !flagsOf[j].contains(want.substring(1)) : flagsOf[j].contains(want));
                CHECK.due("flags of compare " + j, Code.flags(guest), flagsOf[j]);
                CHECK.due("jump " + i + " with flags " + flagsOf[j], guest.place(), isTaken ? 13 : 3);
            }
        }
        HotTranslator back = with(tier, Code.ALWAYS, Code.far(-3));
        CHECK.due("jump to -1", back.run(1), 1);
        CHECK.due("jump to -1: place", back.place(), 65535);
        CHECK.due("jump to -1: run on", back.run(1), 0);
        CHECK.due("jump to -1: fault", back.fault(), 'x');
        HotTranslator far = new HotTranslator();
        far.setTier(tier);
        Code.put(far, 200, Code.ALWAYS, 127, Code.ALWAYS, 128);
        far.goTo(200);
        far.run(1);
        CHECK.due("jump by 127", far.place(), 329);
        far.goTo(202);
        far.run(1);
        CHECK.due("jump by -128", far.place(), 76);
    }

    private static void callsAndReturns(int tier) {
        HotTranslator guest = with(tier, Code.CALL, 8);
        Code.put(guest, 10, Code.RETURN);
        guest.setRegister(3, 256);
        CHECK.due("call", guest.run(1), 1);
        CHECK.due("call: place", guest.place(), 10);
        CHECK.due("call: register 3", guest.register(3), 254);
        CHECK.due("call: word", guest.peek(254) + 256 * guest.peek(255), 2);
        CHECK.due("return", guest.run(1), 1);
        CHECK.due("return: place", guest.place(), 2);
        CHECK.due("return: register 3", guest.register(3), 256);
        guest.goTo(10);
        CHECK.due("return at 256", guest.run(1), 0);
        CHECK.due("return at 256: fault", guest.fault(), 'm');
        CHECK.due("return at 256: register 3", guest.register(3), 256);
        guest.setRegister(3, 255);
        guest.goTo(10);
        CHECK.due("return at 255", guest.run(1), 0);
        guest.setRegister(3, 1);
        guest.goTo(0);
        CHECK.due("call with register 3 at 1", guest.run(1), 0);
        CHECK.due("call with register 3 at 1: fault", guest.fault(), 'm');
        CHECK.due("call with register 3 at 1: register", guest.register(3), 1);
        CHECK.due("call with register 3 at 1: place", guest.place(), 0);
        guest.setRegister(3, 254);
        guest.poke(254, 0x22);
        guest.poke(255, 0x11);
        guest.goTo(10);
        CHECK.due("return far away", guest.run(3), 1);
        CHECK.due("return far away: place", guest.place(), 0x1122);
        CHECK.due("return far away: fault", guest.fault(), 'x');
        HotTranslator over = with(tier, Code.CALL, 8);
        over.setRegister(3, 3);
        over.run(1);
        CHECK.due("call over its own way", over.place(), 10);
        CHECK.due("call over its own way: byte", over.peek(1), 2);
        HotTranslator edge = new HotTranslator();
        edge.setTier(tier);
        Code.put(edge, 254, Code.CALL, Code.far(-128));
        edge.setRegister(3, 2);
        edge.goTo(254);
        edge.run(1);
        CHECK.due("call at 254", edge.place(), 128);
        CHECK.due("call at 254: word", edge.peek(0) + 256 * edge.peek(1), 256);
    }

    private static void divisions(int tier) {
        HotTranslator guest = with(tier, Code.divide(0, 1), Code.divide(2, 2), Code.divide(1, 3));
        Code.registers(guest, 65535, 256, 9, 0);
        CHECK.due("divisions", guest.run(9), 2);
        CHECK.due("divisions: registers", Code.registersOf(guest), "255 256 1 0");
        CHECK.due("divisions: fault", guest.fault(), 'd');
        CHECK.due("divisions: place", guest.place(), 2);
        CHECK.due("divisions: flags", Code.flags(guest), "");
    }

    private static void fills(int tier) {
        HotTranslator guest = with(tier, Code.FILL, Code.HALT);
        Code.registers(guest, 0x1FE, 100, 3, 0);
        CHECK.due("fill by a byte", guest.run(1), 1);
        CHECK.due("fill by a byte: place", guest.place(), 0);
        CHECK.due("fill by a byte: registers", Code.registersOf(guest), "510 101 2 0");
        CHECK.due("fill on", guest.run(2), 2);
        CHECK.due("fill on: place", guest.place(), 1);
        CHECK.due("fill on: registers", Code.registersOf(guest), "510 103 0 0");
        for (int i = 99; i < 104; i++) {
            CHECK.due("filled " + i, guest.peek(i), i == 99 || i == 103 ? 0 : 254);
        }
        guest.goTo(0);
        CHECK.due("fill of none", guest.run(1), 1);
        CHECK.due("fill of none: place", guest.place(), 1);
        CHECK.due("fill of none: registers", Code.registersOf(guest), "510 103 0 0");
        CHECK.due("fill: steps", guest.steps(), 4L);
        guest.setRegister(1, 65535);
        guest.goTo(0);
        CHECK.due("fill of none out of the memory", guest.run(2), 2);
        CHECK.due("fill of none out of the memory: state", guest.state(), 'h');
    }

    private static void fillFaults(int tier) {
        HotTranslator guest = with(tier, Code.FILL, Code.HALT);
        Code.registers(guest, 7, 254, 5, 0);
        CHECK.due("fill over the end", guest.run(9), 2);
        CHECK.due("fill over the end: fault", guest.fault(), 'm');
        CHECK.due("fill over the end: place", guest.place(), 0);
        CHECK.due("fill over the end: registers", Code.registersOf(guest), "7 256 3 0");
        CHECK.due("fill over the end: done", guest.peek(254) + guest.peek(255), 14);
        HotTranslator itself = with(tier, Code.FILL, Code.HALT, Code.HALT);
        Code.registers(itself, Code.copy(3, 2), 0, 2, 0);
        CHECK.due("fill over itself", itself.run(9), 3);
        CHECK.due("fill over itself: registers", Code.registersOf(itself), "30 1 1 1");
        CHECK.due("fill over itself: place", itself.place(), 2);
    }

    private static void outputs(int tier) {
        HotTranslator guest = with(tier, Code.out(0), Code.add(0, 1), Code.ALWAYS, Code.far(-4));
        Code.registers(guest, 65000, 1);
        CHECK.dueThrow("output of none", BOUNDS, () -> guest.output(0));
        guest.run(4);
        CHECK.due("outputs", guest.outputs(), 2);
        CHECK.due("output 0", guest.output(0), 65001);
        CHECK.due("output 1", guest.output(1), 65000);
        CHECK.dueThrow("output 2", BOUNDS, () -> guest.output(2));
        CHECK.dueThrow("output -1", BOUNDS, () -> guest.output(-1));
        CHECK.dueThrow("output least", BOUNDS, () -> guest.output(Integer.MIN_VALUE));
        guest.run(500);
        guest.run(93);
        CHECK.due("outputs 199", guest.outputs(), 199);
        CHECK.due("output 198", guest.output(198), 65000);
        CHECK.dueThrow("output 199 of 199", BOUNDS, () -> guest.output(199));
        guest.run(3);
        CHECK.due("output 199", guest.output(199), 65000);
        guest.run(3);
        CHECK.due("outputs 201", guest.outputs(), 201);
        CHECK.due("output 199 of 201", guest.output(199), 65001);
        CHECK.due("output 0 of 201", guest.output(0), 65200);
        CHECK.dueThrow("output 200 of 201", BOUNDS, () -> guest.output(200));
        HotTranslator each = with(tier, Code.out(0), Code.out(1), Code.out(2), Code.out(3));
        Code.registers(each, 1, 2, 3, 4);
        each.run(4);
        CHECK.due("each register put out", each.output(3) + " " + each.output(2) + " " + each.output(1) + " " + each.output(0), "1 2 3 4");
    }

    private static boolean isInstruction(int first) {
        int number = first % 16;
        int b = first % 4;
        switch (first / 16) {
            case 0: case 10: case 11: case 13:
                return number == 0;
            case 2: case 14:
                return b == 0;
            case 9:
                return number < 7;
            case 15:
                return false;
            default:
                return true;
        }
    }

    private static void noInstruction(int tier) {
        for (int first = 0; first < 256; first++) {
            for (int at = 100; at <= 255; at += 155) {
                HotTranslator guest = new HotTranslator();
                guest.setTier(tier);
                Code.registers(guest, 20, 30, 1, 40);
                guest.poke(at, first);
                guest.goTo(at);
                int op = first / 16;
                boolean isLong = op == 2 || op >= 7 && op <= 10;
                String what = "first byte " + first + " at " + at;
                if (isInstruction(first) && (at == 100 || !isLong)) {
                    CHECK.due(what, guest.run(1), 1);
                } else {
                    CHECK.due(what, guest.run(1), 0);
                    CHECK.due(what + ": state", guest.state(), 'f');
                    CHECK.due(what + ": fault", guest.fault(), isInstruction(first) ? 'x' : 'i');
                    CHECK.due(what + ": place", guest.place(), at);
                    CHECK.due(what + ": registers", Code.registersOf(guest), "20 30 1 40");
                }
            }
        }
    }

    private static void codeOutside(int tier) {
        HotTranslator guest = new HotTranslator();
        guest.setTier(tier);
        guest.poke(254, Code.constant(0));
        guest.poke(255, 9);
        guest.goTo(254);
        CHECK.due("constant at 254", guest.run(1), 0);
        CHECK.due("constant at 254: fault", guest.fault(), 'x');
        guest.poke(253, Code.constant(0));
        guest.poke(254, 9);
        guest.poke(255, 1);
        guest.goTo(253);
        CHECK.due("constant at 253", guest.run(2), 1);
        CHECK.due("constant at 253: register", guest.register(0), 265);
        CHECK.due("behind the memory", guest.place(), 256);
        CHECK.due("behind the memory: fault", guest.fault(), 'x');
        guest.poke(255, Code.HALT);
        guest.goTo(255);
        CHECK.due("halt at 255", guest.run(2), 1);
        CHECK.due("halt at 255: state", guest.state(), 'h');
        CHECK.due("halt at 255: place", guest.place(), 256);
    }

    private static void runLimits(int tier) {
        HotTranslator guest = with(tier, Code.ALWAYS, Code.far(-2));
        CHECK.dueThrow("run 0", ARGUMENT, () -> guest.run(0));
        CHECK.dueThrow("run -1", ARGUMENT, () -> guest.run(-1));
        CHECK.dueThrow("run 501", ARGUMENT, () -> guest.run(501));
        CHECK.due("no step yet", guest.steps(), 0L);
        CHECK.due("run 500", guest.run(500), 500);
        CHECK.due("run 1", guest.run(1), 1);
        CHECK.due("steps", guest.steps(), 501L);
        guest.goTo(50);
        CHECK.due("run to the halt", guest.run(500), 1);
        CHECK.dueThrow("run halted", STATE, () -> guest.run(1));
        CHECK.dueThrow("run 0 halted", ARGUMENT, () -> guest.run(0));
        CHECK.due("steps behind the halt", guest.steps(), 502L);
    }

    private static void interrupts(int tier) {
        HotTranslator guest = with(tier, Code.copy(0, 0), Code.ALWAYS, 2, 0, 0, Code.copy(1, 1), Code.HALT);
        Code.put(guest, 40, Code.out(3), Code.RETURN);
        guest.setRegister(3, 100);
        CHECK.dueThrow("interrupt -1", BOUNDS, () -> guest.interrupt(-1));
        CHECK.dueThrow("interrupt 256", BOUNDS, () -> guest.interrupt(256));
        CHECK.due("waits not", guest.waits(), false);
        CHECK.due("interrupt 0", guest.interrupt(0), -1);
        CHECK.due("interrupt 255", guest.interrupt(255), 0);
        CHECK.due("interrupt 40", guest.interrupt(40), 255);
        CHECK.dueThrow("interrupt 256 again", BOUNDS, () -> guest.interrupt(256));
        CHECK.due("waits", guest.waits(), true);
        CHECK.due("up to the jump", guest.run(2), 2);
        CHECK.due("not taken as no step may be made", guest.waits(), true);
        CHECK.due("place behind the jump", guest.place(), 5);
        CHECK.due("taken in a later run", guest.run(1), 1);
        CHECK.due("waits no more", guest.waits(), false);
        CHECK.due("interrupts", guest.interrupts(), 1);
        CHECK.due("put out", guest.output(0), 98);
        CHECK.due("place put", guest.peek(98) + 256 * guest.peek(99), 5);
        CHECK.due("asked for behind no jump", guest.interrupt(40), -1);
        CHECK.due("the return", guest.run(1), 1);
        CHECK.due("place behind the return", guest.place(), 5);
        CHECK.due("taken behind the return", guest.run(2), 2);
        CHECK.due("interrupts behind the return", guest.interrupts(), 2);
        CHECK.due("to the end", guest.run(9), 2);
        CHECK.due("steps", guest.steps(), 8L);
        CHECK.due("state", guest.state(), 'h');
        HotTranslator call = with(tier, Code.CALL, 4, 0, 0, 0, 0, Code.HALT);
        Code.put(call, 40, Code.HALT);
        call.setRegister(3, 100);
        call.interrupt(40);
        CHECK.due("interrupt behind a call", call.run(9), 2);
        CHECK.due("interrupt behind a call: place", call.place(), 41);
        CHECK.due("interrupt behind a call: word", call.peek(96), 6);
        HotTranslator not = with(tier, Code.IF_ZERO, 4, Code.HALT);
        not.setRegister(3, 100);
        not.interrupt(40);
        CHECK.due("no interrupt behind a jump that is not taken", not.run(9) + " " + not.place() + not.waits(), "2 3true");
        HotTranslator asked = with(tier, Code.ALWAYS, 4, 0, 0, 0, 0, Code.HALT);
        asked.setRegister(3, 100);
        asked.run(1);
        asked.interrupt(40);
        CHECK.due("asked for behind the jump", asked.run(9) + " " + asked.place() + asked.waits(), "1 41false");
        HotTranslator faulty = with(tier, Code.ALWAYS, 4);
        faulty.poke(40, 255);
        faulty.setRegister(3, 100);
        faulty.interrupt(40);
        CHECK.due("interrupt at a fault", faulty.run(9) + " " + faulty.place() + faulty.fault() + faulty.interrupts(), "1 40i1");
    }

    private static void interruptsAndGoTo(int tier) {
        HotTranslator guest = with(tier, Code.ALWAYS, 4, 0, 0, 0, 0, Code.HALT);
        guest.setRegister(3, 100);
        guest.interrupt(40);
        guest.run(1);
        guest.goTo(6);
        CHECK.due("a jump ahead of goTo", guest.run(9) + " " + guest.place() + guest.waits(), "1 7true");
        guest.goTo(6);
        CHECK.due("goTo is no jump", guest.run(9) + " " + guest.place() + guest.waits(), "1 7true");
        HotTranslator twice = with(tier, Code.ALWAYS, 4);
        Code.put(twice, 40, 255);
        twice.setRegister(3, 100);
        twice.interrupt(40);
        twice.run(9);
        twice.poke(40, Code.copy(0, 0));
        twice.interrupt(60);
        twice.goTo(40);
        CHECK.due("behind an interrupt", twice.run(1) + " " + twice.place() + twice.waits(), "1 41true");
    }

    private static void interruptsThatCannotBeWritten(int tier) {
        HotTranslator guest = with(tier, Code.ALWAYS, 0, Code.constant(3), 100, 0, Code.ALWAYS, 0, Code.HALT);
        guest.setRegister(3, 1);
        guest.interrupt(40);
        CHECK.due("word at -1", guest.run(2) + " " + guest.place() + guest.waits() + guest.interrupts(), "2 5true0");
        CHECK.due("written later", guest.run(9) + " " + guest.place() + guest.waits() + guest.interrupts(), "2 41false1");
        HotTranslator edge = with(tier, Code.ALWAYS, 0, Code.HALT);
        edge.setRegister(3, 257);
        edge.interrupt(40);
        CHECK.due("word at 255", edge.run(9) + " " + edge.place() + edge.waits() + edge.register(3), "2 3true257");
        HotTranslator set = with(tier, Code.ALWAYS, 0, Code.HALT);
        set.setRegister(3, 257);
        set.interrupt(40);
        set.run(1);
        set.setRegister(3, 256);
        CHECK.due("word at 254", set.run(9) + " " + set.place() + set.waits() + set.register(3), "1 41false254");
        HotTranslator zero = with(tier, Code.ALWAYS, 0, Code.HALT);
        zero.setRegister(3, 0);
        zero.interrupt(40);
        CHECK.due("word at 65534", zero.run(9) + " " + zero.place() + zero.waits() + zero.register(3), "2 3true0");
    }

    private static void interruptsAndFills(int tier) {
        HotTranslator guest = with(tier, Code.ALWAYS, 0, Code.FILL, Code.HALT);
        Code.registers(guest, 1, 60, 4, 100);
        guest.run(2);
        guest.interrupt(40);
        CHECK.due("not between the bytes of a fill", guest.run(9) + " " + guest.place() + guest.waits(), "4 4true");
        HotTranslator ahead = with(tier, Code.ALWAYS, 0, Code.FILL, Code.HALT);
        Code.registers(ahead, 1, 60, 4, 100);
        ahead.run(1);
        ahead.interrupt(40);
        CHECK.due("ahead of a fill", ahead.run(9) + " " + ahead.place() + ahead.register(2), "1 414");
    }

    private static void ownCodeWritten(int tier) {
        HotTranslator guest = with(tier, Code.store(0, 1), 3, Code.HALT, Code.HALT, Code.HALT);
        Code.registers(guest, Code.copy(2, 3) + 256 * Code.out(3), 0, 0, 77);
        guest.poke(2, Code.copy(0, 0));
        CHECK.due("own code", guest.run(9), 5);
        CHECK.due("own code: out", guest.output(0), 77);
        CHECK.due("own code: register", guest.register(2), 77);
        CHECK.due("own code: sound", guest.isSound(), true);
    }
}
