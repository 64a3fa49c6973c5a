import java.util.NoSuchElementException;

/** Promises 17 to 36: blocks, links, long blocks and flags. */
public final class TranslatorTest {
    private static final Class<IndexOutOfBoundsException> BOUNDS = IndexOutOfBoundsException.class;
    private static final Class<IllegalArgumentException> ARGUMENT = IllegalArgumentException.class;
    private static final Class<NoSuchElementException> NO_ELEMENT = NoSuchElementException.class;
    private static final int PLAIN = Code.copy(0, 0);
    private static final Check CHECK = new Check("TranslatorTest");

    public static void main(String[] args) {
        settings();
        tierZeroMakesNothing();
        tierZeroThrowsAway();
        wrongBlocks();
        blockEnds();
        blockLengths();
        blocksAtFaults();
        blocksOutside();
        pokesThrowAway();
        writesThrowAway();
        blocksThatWriteThemselves();
        fillsThatWriteTheirBlock();
        runsWithinBlocks();
        cacheFills();
        cacheShrinks();
        flushes();
        linksOfJumps();
        linksOfCalls();
        linksBetweenPlainBlocks();
        linksAndReturns();
        linksAndRuns();
        linksAndInterrupts();
        linksThatGo();
        longLoop();
        longLoopByTierOne();
        longBlockOfFour();
        longBlockOfOneIsNone();
        longBlockByLatestLink();
        longBlockWithoutLatestLink();
        sideExits();
        sideExitsByInterrupts();
        longBlockThatGoesByAnInterrupt();
        noSideExitAtEnds();
        longBlockThatGoesWhileItRuns();
        longBlocksThatGo();
        flagsLeftOut();
        flagsKept();
        flagsAndSteps();
        CHECK.end();
    }

    private static HotTranslator with(int tier, int... bytes) {
        HotTranslator guest = Code.with(bytes);
        guest.setTier(tier);
        return guest;
    }

    private static void settings() {
        HotTranslator x = new HotTranslator();
        CHECK.due("setTier 0", x.setTier(0), 1);
        CHECK.due("setTier 2", x.setTier(2), 0);
        CHECK.dueThrow("setTier 3", ARGUMENT, () -> x.setTier(3));
        CHECK.dueThrow("setTier -1", ARGUMENT, () -> x.setTier(-1));
        CHECK.due("setTier 1", x.setTier(1), 2);
        CHECK.due("setCache 1", x.setCache(1), 8);
        CHECK.due("setCache 12", x.setCache(12), 1);
        CHECK.dueThrow("setCache 0", ARGUMENT, () -> x.setCache(0));
        CHECK.dueThrow("setCache 13", ARGUMENT, () -> x.setCache(13));
        CHECK.due("setCache 8", x.setCache(8), 12);
        CHECK.due("setHot 2", x.setHot(2), 4);
        CHECK.due("setHot 50", x.setHot(50), 2);
        CHECK.dueThrow("setHot 1", ARGUMENT, () -> x.setHot(1));
        CHECK.dueThrow("setHot 51", ARGUMENT, () -> x.setHot(51));
        CHECK.due("setHot 4", x.setHot(4), 50);
    }

    private static void tierZeroMakesNothing() {
        HotTranslator x = with(0, Code.add(0, 1), Code.add(0, 1), Code.ALWAYS, Code.far(-4));
        x.run(100);
        CHECK.due("tier 0", Told.counts(x) + " " + x.skipped(), "0 0 0 0 0 0 0 0");
        CHECK.dueThrow("tier 0: chainShare", ArithmeticException.class, x::chainShare);
    }

    private static void tierZeroThrowsAway() {
        HotTranslator x = with(1, PLAIN, Code.HALT);
        Code.put(x, 30, Code.store(0, 1), 0, Code.HALT);
        x.run(2);
        x.setTier(0);
        x.goTo(30);
        x.run(2);
        CHECK.due("a write by tier 0 throws a block away", Told.counts(x), "1 0 1 0 0 0 1");
        CHECK.due("sound behind it", x.isSound(), true);
    }

    private static void wrongBlocks() {
        HotTranslator x = with(1, PLAIN, Code.HALT);
        x.run(2);
        x.goTo(1);
        x.run(1);
        x.poke(0, 0);
        CHECK.due("isKept 0", x.isKept(0), false);
        CHECK.due("isKept 1", x.isKept(1), true);
        CHECK.due("blockAt 1", x.blockAt(1), 1);
        CHECK.dueThrow("blockAt 0", NO_ELEMENT, () -> x.blockAt(0));
        CHECK.dueThrow("blockAt 256", BOUNDS, () -> x.blockAt(256));
        CHECK.dueThrow("blockAt -1", BOUNDS, () -> x.blockAt(-1));
        for (int block : new int[] {-1, 2, Integer.MIN_VALUE, Integer.MAX_VALUE}) {
            CHECK.dueThrow("isKept " + block, BOUNDS, () -> x.isKept(block));
            wrongBlock(x, block, BOUNDS);
        }
        wrongBlock(x, 0, NO_ELEMENT);
        CHECK.dueThrow("no link by a jump", NO_ELEMENT, () -> x.linkOf(1, true));
        CHECK.dueThrow("no link behind", NO_ELEMENT, () -> x.linkOf(1, false));
        CHECK.due("block 1", Told.block(x, 1), "1 1 1 1 - - 0");
    }

    private static void wrongBlock(HotTranslator x, int block, Class<? extends RuntimeException> want) {
        CHECK.dueThrow("startOf " + block, want, () -> x.startOf(block));
        CHECK.dueThrow("lengthOf " + block, want, () -> x.lengthOf(block));
        CHECK.dueThrow("bytesOf " + block, want, () -> x.bytesOf(block));
        CHECK.dueThrow("entries " + block, want, () -> x.entries(block));
        CHECK.dueThrow("linkOf taken " + block, want, () -> x.linkOf(block, true));
        CHECK.dueThrow("linkOf behind " + block, want, () -> x.linkOf(block, false));
        CHECK.dueThrow("partsOf " + block, want, () -> x.partsOf(block));
    }

    private static void blockEnds() {
        end("halt", 2, 2, PLAIN, Code.HALT, PLAIN);
        end("jump", 2, 3, PLAIN, Code.ALWAYS, 9, PLAIN);
        end("jump that is not taken", 2, 3, PLAIN, Code.IF_ZERO, 9, PLAIN);
        end("call", 2, 3, PLAIN, Code.CALL, 9, PLAIN);
        end("return", 2, 2, PLAIN, Code.RETURN, PLAIN);
        end("no instruction", 2, 2, PLAIN, 255, PLAIN);
        end("a halt with a number", 2, 2, PLAIN, 1, PLAIN);
        end("a fill with a number", 2, 2, PLAIN, 209, PLAIN);
        end("all others", 8, 12, Code.constant(0), 1, 0, Code.add(0, 0), Code.load(1, 1), 0, Code.store(1, 1), 70,
                Code.divide(0, 0), Code.FILL, Code.out(0), Code.and(2, 2), PLAIN, PLAIN);
    }

    private static void end(String what, int length, int bytes, int... code) {
        HotTranslator x = with(1, code);
        x.run(1);
        CHECK.due("block with " + what, Told.block(x, 0), "0 " + length + " " + bytes + " 1 - - 0");
    }

    private static void blockLengths() {
        HotTranslator x = new HotTranslator();
        for (int i = 0; i < 200; i++) {
            x.poke(i, PLAIN);
        }
        x.run(8);
        CHECK.due("at most 8", Told.block(x, 0), "0 8 8 1 - - 0");
        x.goTo(57);
        x.run(1);
        CHECK.due("up to 63", Told.block(x, 1), "57 7 7 1 - - 0");
        x.goTo(63);
        x.run(1);
        CHECK.due("63 alone", Told.block(x, 2), "63 1 1 1 - - 0");
        x.goTo(120);
        x.run(1);
        CHECK.due("8 up to 127", Told.block(x, 3), "120 8 8 1 - - 0");
        x.goTo(121);
        x.run(1);
        CHECK.due("7 up to 127", Told.block(x, 4), "121 7 7 1 - - 0");
        x.poke(63, Code.constant(1));
        CHECK.due("thrown away by poke at 63", x.isKept(1) + " " + x.isKept(2), "false false");
        x.goTo(62);
        x.run(1);
        CHECK.due("bytes over 63", Told.block(x, 5), "62 2 4 1 - - 0");
        x.goTo(127);
        x.poke(127, Code.ALWAYS);
        x.run(1);
        CHECK.due("jump over 127", Told.block(x, 6), "127 1 2 1 - - 0");
    }

    private static void blocksAtFaults() {
        HotTranslator x = new HotTranslator();
        Code.put(x, 250, PLAIN, PLAIN, PLAIN, Code.load(0, 0), 0, Code.constant(0));
        x.goTo(250);
        x.run(1);
        CHECK.due("fault x in a block", Told.block(x, 0), "250 5 6 1 - - 0");
        x.poke(253, Code.constant(0));
        x.goTo(250);
        x.run(1);
        CHECK.due("no fault x up to 255", Told.block(x, 1), "250 4 6 1 - - 0");
        x.poke(254, Code.constant(0));
        x.goTo(254);
        CHECK.due("fault x at 254", x.run(3), 0);
        CHECK.due("fault x with two bytes", Told.block(x, 2), "254 1 2 1 - - 0");
        x.poke(254, 15);
        x.goTo(254);
        x.run(1);
        CHECK.due("fault i has one byte", Told.block(x, 3), "254 1 1 1 - - 0");
        x.poke(255, 0);
        CHECK.due("a poke behind the fault i", x.isKept(3), true);
        x.poke(255, 144 + 7);
        x.goTo(255);
        CHECK.due("fault i ahead of x", x.run(1) + " " + x.fault(), "0 i");
        CHECK.due("fault i at 255", Told.block(x, 4), "255 1 1 1 - - 0");
    }

    private static void blocksOutside() {
        HotTranslator x = new HotTranslator();
        x.poke(255, PLAIN);
        x.goTo(255);
        CHECK.due("over the end", x.run(5), 1);
        CHECK.due("block at 255", Told.block(x, 0), "255 1 1 1 - 1 0");
        CHECK.due("block at 256", Told.block(x, 1), "256 1 0 1 - - 0");
        x.poke(255, Code.ALWAYS);
        CHECK.due("a poke at 255", x.isKept(0) + " " + x.isKept(1), "false true");
        Code.put(x, 0, Code.ALWAYS, Code.far(-4));
        x.goTo(0);
        CHECK.due("ahead of the start", x.run(5) + " " + x.place(), "1 65534");
        CHECK.due("block at 65534", Told.block(x, 3), "65534 1 0 1 - - 0");
        CHECK.due("link to it", Told.block(x, 2), "0 1 2 1 3 - 0");
        CHECK.due("sound", x.isSound(), true);
    }

    private static void pokesThrowAway() {
        HotTranslator x = new HotTranslator();
        Code.put(x, 10, PLAIN, Code.constant(0), 0, 0, Code.HALT);
        int[] pokes = {9, 15, 10, 11, 13, 14};
        for (int i = 0; i < pokes.length; i++) {
            x.goTo(10);
            x.run(9);
            int at = pokes[i];
            boolean isIn = at >= 10 && at <= 14;
            int before = x.discarded();
            x.poke(at, x.peek(at));
            CHECK.due("poke at " + at + " of the same value", x.discarded() - before, isIn ? 1 : 0);
            CHECK.due("blocks behind it", x.blocks(), isIn ? 0 : 1);
        }
        x.goTo(10);
        x.run(9);
        x.goTo(14);
        x.run(9);
        CHECK.due("two blocks", x.blocks(), 2);
        CHECK.dueThrow("a wrong poke", ARGUMENT, () -> x.poke(14, 256));
        CHECK.due("two blocks behind a wrong poke", x.blocks(), 2);
        x.poke(14, 0);
        CHECK.due("both thrown away", Told.counts(x), "6 0 8 0 0 0 6");
    }

    private static void writesThrowAway() {
        HotTranslator x = with(1, Code.store(0, 1), 0, Code.HALT);
        Code.put(x, 100, PLAIN, Code.HALT);
        x.goTo(100);
        x.run(2);
        int[] at = {98, 102, 99, 101, 100};
        for (int i = 0; i < at.length; i++) {
            x.setRegister(0, PLAIN + (PLAIN << 8));
            x.setRegister(1, at[i]);
            x.goTo(0);
            x.run(2);
            boolean isIn = at[i] != 98 && at[i] != 102;
            CHECK.due("a word written at " + at[i], x.blocks(), isIn ? 1 : 2);
            x.goTo(100);
            x.run(1);
        }
        HotTranslator call = with(1, Code.CALL, 3);
        Code.put(call, 100, PLAIN, Code.HALT);
        call.goTo(100);
        call.run(2);
        call.setRegister(3, 103);
        call.goTo(0);
        call.run(2);
        CHECK.due("the word of a call", Told.counts(call), "3 2 3 0 0 0 1");
        HotTranslator interrupt = with(1, Code.ALWAYS, 3, 0, 0, 0, Code.HALT);
        Code.put(interrupt, 100, PLAIN, Code.HALT);
        interrupt.goTo(100);
        interrupt.run(2);
        interrupt.setRegister(3, 102);
        interrupt.goTo(0);
        interrupt.interrupt(50);
        interrupt.run(1);
        CHECK.due("an interrupt that waits", Told.counts(interrupt), "2 2 2 0 0 0 0");
        interrupt.run(1);
        CHECK.due("the word of an interrupt", Told.counts(interrupt), "3 2 3 0 0 0 1");
        HotTranslator fill = with(1, Code.FILL, Code.HALT);
        Code.put(fill, 100, PLAIN, Code.HALT);
        fill.goTo(100);
        fill.run(2);
        Code.registers(fill, 0, 98, 3, 0);
        fill.goTo(0);
        fill.run(2);
        CHECK.due("a fill ahead of a block", fill.blocks(), 2);
        fill.run(1);
        CHECK.due("a fill into a block", fill.isKept(0), false);
    }

    private static void blocksThatWriteThemselves() {
        HotTranslator x = with(1, PLAIN, Code.store(0, 1), 5, PLAIN, PLAIN, PLAIN, Code.HALT);
        Code.registers(x, Code.HALT, 0, 0, 0);
        CHECK.due("own block", x.run(9), 5);
        CHECK.due("left behind the store", Told.counts(x), "2 1 2 0 0 0 1");
        CHECK.due("the next block", Told.block(x, 1), "3 3 3 1 - - 0");
        HotTranslator last = with(1, PLAIN, Code.CALL, 20);
        Code.put(last, 23, PLAIN, Code.HALT);
        last.setRegister(3, 2);
        last.run(9);
        CHECK.due("thrown away by its call", Told.counts(last), "2 1 2 0 0 0 1");
        CHECK.due("behind its call", Told.block(last, 1), "23 2 2 1 - - 0");
        HotTranslator end = with(1, PLAIN, PLAIN, PLAIN, PLAIN, PLAIN, PLAIN, PLAIN, Code.store(0, 1), 0, Code.HALT);
        Code.registers(end, 0, 0, 0, 0);
        end.run(9);
        CHECK.due("thrown away by its last instruction", Told.counts(end), "2 1 2 0 0 0 1");
        CHECK.due("behind its last instruction", Told.block(end, 1), "9 1 1 1 - - 0");
    }

    private static void fillsThatWriteTheirBlock() {
        HotTranslator x = with(1, Code.FILL, PLAIN, PLAIN, Code.HALT);
        Code.registers(x, PLAIN, 1, 2, 0);
        CHECK.due("fill over its block", x.run(2), 2);
        CHECK.due("made anew at the fill", Told.counts(x), "2 0 2 0 0 0 2");
        CHECK.due("the place behind the fill", x.place(), 1);
        x.run(9);
        CHECK.due("at the end", Told.counts(x), "3 1 3 0 0 0 2");
        CHECK.due("the block behind", Told.block(x, 2), "1 3 3 1 - - 0");
        HotTranslator over = with(1, PLAIN, Code.FILL, Code.HALT);
        Code.registers(over, Code.HALT, 1, 9, 0);
        CHECK.due("fill over itself", over.run(9), 3);
        CHECK.due("blocks of a fill over itself", Told.counts(over), "2 1 2 0 0 0 1");
        HotTranslator far = with(1, PLAIN, Code.FILL, Code.HALT);
        Code.registers(far, Code.HALT, 50, 9, 0);
        CHECK.due("fill elsewhere", far.run(20), 11);
        CHECK.due("one block", Told.counts(far), "1 1 1 0 0 0 0");
    }

    private static void runsWithinBlocks() {
        HotTranslator x = with(1, PLAIN, PLAIN, Code.FILL, Code.HALT);
        Code.registers(x, 0, 50, 3, 0);
        x.run(1);
        x.run(1);
        x.run(2);
        x.run(2);
        CHECK.due("a block for each run", Told.counts(x), "3 3 4 0 0 0 0");
        CHECK.due("blocks at 0, 1, 2", Told.block(x, 0) + "; " + Told.block(x, 1) + "; " + Told.block(x, 2), "0 4 4 1 - - 0; 1 3 3 1 - - 0; 2 2 2 2 - - 0");
        CHECK.due("up to the halt", x.state(), 'h');
    }

    private static void cacheFills() {
        HotTranslator x = with(1, Code.ALWAYS, 8);
        x.setCache(2);
        Code.put(x, 10, Code.ALWAYS, 8);
        Code.put(x, 20, Code.ALWAYS, Code.far(-22));
        CHECK.due("three blocks in two", x.run(7), 7);
        CHECK.due("counts", Told.counts(x), "7 2 7 0 0 0 5");
        CHECK.due("kept", x.isKept(4) + " " + x.isKept(5) + " " + x.isKept(6), "false true true");
        CHECK.due("the last link", Told.block(x, 5) + "; " + Told.block(x, 6), "20 1 2 1 6 - 0; 0 1 2 1 - - 0");
        HotTranslator one = with(1, Code.ALWAYS, 0, Code.ALWAYS, Code.far(-4));
        one.setCache(1);
        one.run(4);
        CHECK.due("one block alone", Told.counts(one) + "; " + Told.block(one, 3), "4 1 4 0 0 0 3; 2 1 2 1 - - 0");
        HotTranslator itself = with(1, PLAIN, Code.ALWAYS, Code.far(-3));
        itself.setCache(1);
        itself.run(8);
        CHECK.due("a link to itself", Told.counts(itself) + "; " + Told.block(itself, 0), "1 1 2 2 0 0 0; 0 2 3 4 0 - 0");
    }

    private static void cacheShrinks() {
        HotTranslator x = new HotTranslator();
        for (int i = 0; i < 8; i++) {
            x.goTo(10 * i);
            x.run(1);
        }
        CHECK.due("eight kept", Told.counts(x), "8 8 8 0 0 0 0");
        x.goTo(90);
        x.run(1);
        CHECK.due("the earliest is thrown away", Told.counts(x) + x.isKept(0) + x.isKept(1), "9 8 9 0 0 0 1falsetrue");
        CHECK.due("setCache 3", x.setCache(3), 8);
        CHECK.due("three kept", Told.counts(x) + x.isKept(5) + x.isKept(6), "9 3 9 0 0 0 6falsetrue");
        CHECK.dueThrow("setCache 0", ARGUMENT, () -> x.setCache(0));
        CHECK.due("three kept behind a wrong size", x.blocks(), 3);
        CHECK.due("setCache 12", x.setCache(12), 3);
        CHECK.due("three kept of twelve", x.blocks(), 3);
        for (int i = 0; i < 12; i++) {
            x.goTo(100 + 10 * i);
            x.run(1);
        }
        CHECK.due("twelve kept", Told.counts(x) + x.isKept(8) + x.isKept(9), "21 12 21 0 0 0 9falsetrue");
    }

    private static void flushes() {
        HotTranslator x = with(1, Code.ALWAYS, 8);
        x.run(2);
        CHECK.due("flush", x.flush(), 2);
        CHECK.due("flush of none", x.flush(), 0);
        CHECK.due("counts", Told.counts(x), "2 0 2 0 0 0 2");
        x.goTo(0);
        x.run(2);
        CHECK.due("made anew", Told.counts(x) + "; " + Told.block(x, 2), "4 2 4 0 0 0 2; 0 1 2 1 3 - 0");
    }

    private static void linksOfJumps() {
        HotTranslator x = with(1, Code.subtract(0, 1), Code.IF_NOT_ZERO, Code.far(-3), Code.HALT);
        Code.registers(x, 5, 1);
        CHECK.due("a loop", x.run(100), 11);
        CHECK.due("counts", Told.counts(x), "2 2 3 3 0 0 0");
        CHECK.due("the loop", Told.block(x, 0), "0 2 3 5 0 1 0");
        x.goTo(0);
        x.setRegister(0, 1);
        x.run(100);
        CHECK.due("the other way by its link", Told.counts(x), "2 2 4 4 0 0 0");
        CHECK.due("linkOf taken", x.linkOf(0, true), 0);
        CHECK.due("linkOf behind", x.linkOf(0, false), 1);
    }

    private static void linksOfCalls() {
        HotTranslator x = with(1, Code.CALL, 8, Code.HALT);
        Code.put(x, 10, Code.HALT);
        x.setRegister(3, 100);
        x.run(9);
        x.goTo(0);
        x.run(9);
        CHECK.due("a call by its link", Told.counts(x) + "; " + Told.block(x, 0), "2 2 3 1 0 0 0; 0 1 2 2 1 - 0");
    }

    private static void linksBetweenPlainBlocks() {
        HotTranslator x = new HotTranslator();
        for (int i = 0; i < 9; i++) {
            x.poke(i, PLAIN);
        }
        x.run(99);
        x.goTo(0);
        x.run(99);
        CHECK.due("a link behind eight", Told.counts(x) + "; " + Told.block(x, 0), "2 2 3 1 0 0 0; 0 8 8 2 - 1 0");
        HotTranslator fill = new HotTranslator();
        fill.poke(63, Code.FILL);
        Code.registers(fill, 0, 100, 3, 0);
        fill.goTo(63);
        fill.run(99);
        CHECK.due("a link behind a fill", Told.block(fill, 0), "63 1 1 1 - 1 0");
    }

    private static void linksAndReturns() {
        HotTranslator x = with(1, Code.RETURN);
        x.poke(100, 30);
        x.setRegister(3, 100);
        x.run(9);
        CHECK.due("no link behind a return", Told.counts(x) + "; " + Told.block(x, 0), "2 2 2 0 0 0 0; 0 1 1 1 - - 0");
        HotTranslator last = new HotTranslator();
        last.poke(255, Code.RETURN);
        last.goTo(255);
        last.run(9);
        CHECK.due("no link behind a return at 255", Told.counts(last) + "; " + Told.block(last, 0), "2 2 2 0 0 0 0; 255 1 1 1 - - 0");
    }

    private static void linksAndRuns() {
        HotTranslator x = with(1, PLAIN, Code.ALWAYS, 7);
        x.run(2);
        CHECK.due("nothing is entered at the end of a run", Told.counts(x), "1 1 1 0 0 0 0");
        x.run(1);
        CHECK.due("no link over runs", Told.counts(x) + "; " + Told.block(x, 0), "2 2 2 0 0 0 0; 0 2 3 1 - - 0");
        x.goTo(0);
        x.run(3);
        CHECK.due("a link in a run", Told.block(x, 0), "0 2 3 2 1 - 0");
        x.goTo(0);
        x.run(2);
        x.run(1);
        CHECK.due("not followed over runs", Told.counts(x) + "; " + Told.block(x, 1), "2 2 6 0 0 0 0; 10 1 1 3 - - 0");
        x.goTo(10);
        x.run(1);
        CHECK.due("looked up as a run begins", Told.counts(x), "2 2 7 0 0 0 0");
    }

    private static void linksAndInterrupts() {
        HotTranslator x = with(1, Code.ALWAYS, 8);
        Code.put(x, 40, Code.HALT);
        x.setRegister(3, 100);
        x.interrupt(40);
        x.run(9);
        CHECK.due("no link behind an interrupt", Told.counts(x) + "; " + Told.block(x, 0), "2 2 2 0 0 0 0; 0 1 2 1 - - 0");
        x.goTo(0);
        x.run(9);
        CHECK.due("put without one", Told.block(x, 0), "0 1 2 2 2 - 0");
        x.goTo(0);
        x.interrupt(10);
        x.run(9);
        CHECK.due("not followed behind an interrupt", Told.counts(x) + "; " + Told.block(x, 2), "3 3 6 0 0 0 0; 10 1 1 2 - - 0");
        x.goTo(0);
        x.setRegister(3, 1);
        x.interrupt(40);
        x.run(9);
        CHECK.due("followed if it goes on waiting", Told.counts(x) + x.waits(), "3 3 7 1 0 0 0true");
    }

    private static void linksThatGo() {
        HotTranslator x = with(1, Code.IF_ZERO, 8, Code.HALT);
        x.run(9);
        Code.put(x, 50, Code.compare(0, 0), Code.ALWAYS, Code.far(-53));
        x.goTo(50);
        x.run(9);
        CHECK.due("both links", Told.block(x, 0), "0 1 2 2 3 1 0");
        x.poke(10, 0);
        CHECK.due("one link has gone", Told.block(x, 0), "0 1 2 2 - 1 0");
        x.poke(2, 0);
        CHECK.due("both have gone", Told.block(x, 0), "0 1 2 2 - - 0");
        x.goTo(50);
        x.run(9);
        CHECK.due("put anew", Told.block(x, 0), "0 1 2 3 4 - 0");
        x.poke(0, Code.IF_ZERO);
        CHECK.due("the link of the other one", Told.block(x, 2), "50 2 3 2 - - 0");
        CHECK.due("sound", x.isSound(), true);
    }

    /** A loop of two blocks, ten times: at 0 and at 16, and a halt behind it. */
    private static HotTranslator loop(int tier, int hot) {
        HotTranslator x = with(tier, Code.add(0, 1), Code.ALWAYS, 13);
        Code.put(x, 16, Code.subtract(2, 1), Code.IF_NOT_ZERO, Code.far(-19), Code.HALT);
        x.setHot(hot);
        Code.registers(x, 0, 1, 10, 0);
        return x;
    }

    private static void longLoop() {
        HotTranslator x = loop(2, 3);
        CHECK.due("loop", x.run(100), 41);
        CHECK.due("loop: counts", Told.counts(x), "3 3 4 9 1 0 0");
        CHECK.due("loop: head", Told.block(x, 0), "0 2 3 10 1 - 2");
        CHECK.due("loop: second", Told.block(x, 1), "16 2 3 10 0 2 0");
        HotTranslator soon = loop(2, 2);
        soon.run(7);
        CHECK.due("hot at the second entry", Told.counts(soon) + "; " + Told.block(soon, 0) + "; " + Told.block(soon, 1), "2 2 3 0 1 0 0; 0 2 3 2 1 - 2; 16 2 3 2 0 - 0");
        HotTranslator hot = loop(2, 50);
        hot.run(100);
        CHECK.due("not hot", Told.counts(hot), "3 3 4 17 0 0 0");
        hot.setHot(2);
        hot.goTo(0);
        hot.run(1);
        CHECK.due("hot later", Told.counts(hot) + " " + hot.partsOf(0), "3 3 5 17 1 0 0 3");
        HotTranslator second = loop(2, 3);
        second.run(100);
        second.goTo(16);
        second.setRegister(2, 2);
        second.run(1);
        CHECK.due("the second by a look-up", Told.counts(second) + " " + second.partsOf(1), "3 3 5 9 2 0 0 2");
    }

    private static void longLoopByTierOne() {
        HotTranslator x = loop(1, 2);
        x.run(100);
        CHECK.due("no long block by tier 1", Told.counts(x), "3 3 4 17 0 0 0");
        HotTranslator first = loop(2, 2);
        first.run(10);
        CHECK.due("long by tier 2", Told.counts(first), "2 2 3 1 1 0 0");
        first.setTier(1);
        first.goTo(0);
        first.run(6);
        CHECK.due("kept, but not run by tier 1", Told.counts(first) + " " + first.partsOf(0), "2 2 4 3 1 0 0 2");
    }

    /** Jumps from 0 to 10, 20, .. up to the last one, which jumps back to the first. */
    private static HotTranslator ring(int blocks) {
        HotTranslator x = new HotTranslator();
        for (int i = 0; i < blocks; i++) {
            Code.put(x, 10 * i, Code.ALWAYS, i + 1 < blocks ? 8 : Code.far(-10 * i - 2));
        }
        x.setTier(2);
        x.setHot(2);
        return x;
    }

    private static void longBlockOfFour() {
        HotTranslator five = ring(5);
        five.run(6);
        CHECK.due("at most four", Told.counts(five) + " " + five.partsOf(0), "5 5 6 0 1 0 0 4");
        five.run(1);
        CHECK.due("the run goes on with a look-up", Told.counts(five) + " " + five.partsOf(1), "5 5 7 0 2 0 0 4");
        five.goTo(0);
        five.run(6);
        CHECK.due("four, a link, and one in the next long block", Told.counts(five), "5 5 8 1 3 0 0");
        HotTranslator three = ring(3);
        three.run(4);
        CHECK.due("up to one that is in it", Told.counts(three) + " " + three.partsOf(0), "3 3 4 0 1 0 0 3");
        HotTranslator open = ring(4);
        open.poke(30, Code.HALT);
        open.run(9);
        open.goTo(0);
        open.run(9);
        CHECK.due("up to one without links", Told.counts(open) + " " + open.partsOf(0), "4 4 5 0 1 0 0 4");
        HotTranslator two = ring(2);
        two.poke(10, Code.HALT);
        two.run(9);
        two.goTo(0);
        two.run(9);
        CHECK.due("two without links behind", Told.counts(two) + " " + two.partsOf(0) + " " + two.entries(1), "2 2 3 0 1 0 0 2 2");
    }

    private static void longBlockOfOneIsNone() {
        HotTranslator x = ring(1);
        x.run(9);
        CHECK.due("a block that leads to itself", Told.counts(x) + " " + x.partsOf(0), "1 1 2 7 0 0 0 0");
        HotTranslator halt = new HotTranslator();
        halt.setTier(2);
        halt.setHot(2);
        for (int i = 0; i < 4; i++) {
            halt.goTo(0);
            halt.run(1);
        }
        CHECK.due("a block without links", Told.counts(halt) + " " + halt.partsOf(0), "1 1 4 0 0 0 0 0");
    }

    /** At 0 a jump to 10 if register 0 equals register 1, otherwise on to a halt at 3. */
    private static HotTranslator fork(int hot) {
        HotTranslator x = with(2, Code.compare(0, 1), Code.IF_ZERO, 7, Code.HALT);
        x.setHot(hot);
        return x;
    }

    private static void go(HotTranslator x, int value) {
        x.setRegister(0, value);
        x.goTo(0);
        x.run(9);
    }

    private static void longBlockByLatestLink() {
        HotTranslator put = fork(3);
        go(put, 0);
        go(put, 1);
        go(put, 1);
        CHECK.due("by the link put last", Told.counts(put) + " " + Told.block(put, 0), "3 3 5 0 1 0 0 0 2 3 3 1 2 2");
        HotTranslator followed = fork(4);
        go(followed, 0);
        go(followed, 1);
        go(followed, 0);
        go(followed, 1);
        CHECK.due("by the link followed last", Told.counts(followed) + " " + Told.block(followed, 0), "3 3 6 2 1 1 0 0 2 3 4 1 2 2");
        go(followed, 0);
        CHECK.due("without the link being followed", Told.counts(followed), "3 3 7 2 1 1 0");
    }

    private static void longBlockWithoutLatestLink() {
        HotTranslator x = fork(3);
        go(x, 0);
        go(x, 1);
        x.poke(3, 0);
        x.goTo(0);
        x.setRegister(0, 0);
        x.run(9);
        CHECK.due("by the link that is there", Told.counts(x) + " " + Told.block(x, 0), "3 2 5 0 1 0 1 0 2 3 3 1 - 2");
    }

    private static void sideExits() {
        HotTranslator x = fork(2);
        go(x, 0);
        go(x, 1);
        CHECK.due("a side exit to a new block", Told.counts(x) + " " + Told.block(x, 0), "3 3 4 0 1 1 0 0 2 3 2 1 2 2");
        go(x, 1);
        CHECK.due("a side exit by a link", Told.counts(x) + " " + Told.block(x, 0), "3 3 5 1 1 2 0 0 2 3 3 1 2 2");
        go(x, 0);
        CHECK.due("no side exit", Told.counts(x) + " " + Told.block(x, 0), "3 3 6 1 1 2 0 0 2 3 4 1 2 2");
        CHECK.due("entered by the guard", x.entries(1), 2);
    }

    private static void sideExitsByInterrupts() {
        HotTranslator x = ring(3);
        x.setRegister(3, 200);
        x.run(4);
        x.goTo(0);
        x.interrupt(100);
        CHECK.due("an interrupt in a long block", x.run(9) + " " + x.place(), "2 101");
        CHECK.due("a side exit by an interrupt", Told.counts(x), "4 4 6 0 1 1 0");
        HotTranslator waiting = ring(3);
        waiting.setRegister(3, 1);
        waiting.run(4);
        waiting.goTo(0);
        waiting.interrupt(100);
        waiting.run(3);
        CHECK.due("no side exit by one that goes on waiting", Told.counts(waiting), "3 3 5 0 1 0 0");
        HotTranslator last = ring(2);
        last.setRegister(3, 200);
        last.run(3);
        last.goTo(10);
        last.run(1);
        last.interrupt(100);
        last.run(1);
        CHECK.due("no side exit as a run begins", Told.counts(last), "3 3 5 0 2 0 0");
    }

    /** A ring of three that was run as a long block, whose first part is left for an interrupt with its word there. */
    private static HotTranslator interrupted(int wordAt) {
        HotTranslator x = ring(3);
        x.run(4);
        x.goTo(0);
        x.setRegister(3, wordAt + 2);
        x.interrupt(100);
        CHECK.due("an interrupt's word at " + wordAt, x.run(9) + " " + x.place(), "2 101");
        return x;
    }

    private static void longBlockThatGoesByAnInterrupt() {
        HotTranslator beside = interrupted(8);
        CHECK.due("a word ahead of the next part", Told.counts(beside) + " " + beside.partsOf(0), "4 4 6 0 1 1 0 3");
        HotTranslator next = interrupted(9);
        CHECK.due("a word over the next part", Told.counts(next) + " " + next.partsOf(0), "4 3 6 0 1 0 1 0");
        HotTranslator later = interrupted(21);
        CHECK.due("a word over a later part", Told.counts(later) + " " + later.partsOf(0), "4 3 6 0 1 0 1 0");
        HotTranslator first = interrupted(1);
        CHECK.due("a word over the part that ran", Told.counts(first) + " " + first.isKept(0), "4 3 6 0 1 0 1 false");
        HotTranslator other = ring(3);
        other.goTo(100);
        other.run(1);
        other.goTo(0);
        other.run(4);
        other.goTo(0);
        other.setRegister(3, 102);
        other.interrupt(50);
        CHECK.due("a word over another block", other.run(9) + " " + Told.counts(other), "2 5 4 7 0 1 1 1");
    }

    private static void noSideExitAtEnds() {
        HotTranslator x = ring(3);
        x.run(4);
        x.goTo(0);
        x.run(1);
        CHECK.due("a run that ends behind a part", Told.counts(x), "3 3 5 0 1 0 0");
        x.run(1);
        CHECK.due("the long block is left", Told.counts(x) + " " + x.partsOf(1), "3 3 6 0 2 0 0 3");
        HotTranslator fault = with(2, PLAIN, Code.ALWAYS, 7);
        Code.put(fault, 10, Code.divide(0, 1), Code.ALWAYS, 17);
        fault.setHot(2);
        fault.setRegister(1, 1);
        fault.run(9);
        fault.goTo(0);
        fault.run(9);
        CHECK.due("a long block of three", Told.counts(fault) + " " + fault.partsOf(0), "3 3 4 0 1 0 0 3");
        fault.goTo(0);
        fault.setRegister(1, 0);
        CHECK.due("a fault in a part", fault.run(9) + " " + fault.fault(), "2 d");
        CHECK.due("no side exit by a fault", Told.counts(fault), "3 3 5 0 1 0 0");
        fault.goTo(0);
        fault.setRegister(1, 1);
        fault.run(3);
        CHECK.due("a run that ends in a part", Told.counts(fault), "3 3 6 0 1 0 0");
    }

    private static void longBlockThatGoesWhileItRuns() {
        HotTranslator x = with(2, Code.store(0, 1), 0, Code.ALWAYS, 6);
        Code.put(x, 10, Code.ALWAYS, 8);
        Code.put(x, 20, Code.HALT);
        x.setHot(2);
        Code.registers(x, 0, 100, 0, 0);
        x.run(9);
        x.goTo(0);
        x.run(9);
        CHECK.due("three parts", Told.counts(x) + " " + Told.block(x, 0), "3 3 4 0 1 0 0 0 2 4 2 1 - 3");
        x.goTo(0);
        x.setRegister(1, 20);
        x.run(2);
        CHECK.due("the last part goes", Told.counts(x) + " " + Told.block(x, 0), "3 2 5 0 1 0 1 0 2 4 3 1 - 0");
        x.setTier(1);
        x.goTo(0);
        x.setRegister(1, 100);
        x.run(9);
        x.setTier(2);
        x.goTo(0);
        x.run(9);
        CHECK.due("it is made again", Told.counts(x) + " " + Told.block(x, 0), "4 3 8 1 2 0 1 0 2 4 5 1 - 3");
        x.goTo(0);
        x.setRegister(1, 20);
        CHECK.due("the last part goes and the run goes on", x.run(9), 4);
        CHECK.due("left without a side exit, by the link", Told.counts(x) + " " + Told.block(x, 0), "5 3 10 2 2 0 2 0 2 4 6 1 - 0");
        x.goTo(0);
        x.setRegister(1, 100);
        x.run(9);
        x.goTo(0);
        x.setRegister(1, 0);
        x.setRegister(0, Code.store(0, 1));
        CHECK.due("the part that runs goes", x.run(9), 4);
        CHECK.due("left without a side exit, by a look-up", Told.counts(x), "6 3 14 2 4 0 3");
    }

    private static void longBlocksThatGo() {
        HotTranslator x = ring(4);
        x.setCache(4);
        x.run(5);
        CHECK.due("four parts", x.partsOf(0), 4);
        x.setCache(5);
        x.goTo(100);
        x.run(1);
        x.poke(100, PLAIN);
        CHECK.due("a poke to another block", Told.counts(x) + " " + x.partsOf(0), "5 4 6 0 1 0 1 4");
        x.setCache(4);
        x.poke(31, x.peek(31));
        CHECK.due("a poke to the last part", Told.counts(x) + " " + x.partsOf(0), "5 3 6 0 1 0 2 0");
        x.goTo(0);
        x.run(1);
        CHECK.due("begins another one", Told.counts(x) + " " + x.partsOf(0), "5 3 7 0 2 0 2 3");
        x.setCache(2);
        CHECK.due("its head goes", Told.counts(x) + " " + x.partsOf(1) + " " + x.partsOf(2), "5 2 7 0 2 0 3 0 0");
        HotTranslator later = ring(3);
        later.run(5);
        later.goTo(10);
        later.run(1);
        CHECK.due("two long blocks", Told.counts(later) + " " + later.partsOf(0) + " " + later.partsOf(1), "3 3 5 0 2 0 0 3 3");
        later.setCache(2);
        CHECK.due("one that has the head of another one", later.partsOf(1) + " " + later.partsOf(2), "0 0");
        CHECK.due("sound", later.isSound(), true);
    }

    private static int skippedBy(int steps, int... code) {
        HotTranslator x = with(1, code);
        x.setRegister(1, 100);
        x.run(steps);
        return x.skipped();
    }

    private static void flagsLeftOut() {
        CHECK.due("two sums", skippedBy(9, Code.add(0, 1), Code.add(0, 1), Code.HALT), 1);
        CHECK.due("all four ops", skippedBy(9, Code.add(0, 1), Code.subtract(0, 1), Code.compare(0, 1), Code.and(0, 1), Code.add(2, 2), Code.HALT), 4);
        CHECK.due("ops 1, 2 and 14 between", skippedBy(9, Code.compare(0, 1), Code.copy(2, 3), Code.constant(0), 1, 1, Code.out(3), Code.compare(1, 1), Code.HALT), 1);
        CHECK.due("seven", skippedBy(9, 48, 48, 48, 48, 48, 48, 48, 48, Code.HALT), 7);
        HotTranslator x = with(1, Code.compare(0, 1), Code.copy(2, 3), Code.subtract(0, 1), Code.ALWAYS, Code.far(-5));
        x.run(40);
        CHECK.due("each time", x.skipped(), 10);
        HotTranslator same = with(1, Code.add(0, 1), Code.add(0, 1), Code.HALT);
        same.isSameBy(2, 9);
        CHECK.due("not by isSameBy", same.skipped(), 0);
    }

    private static void flagsKept() {
        CHECK.due("a load between", skippedBy(9, Code.add(0, 1), Code.load(2, 1), 0, Code.add(0, 1), Code.HALT), 0);
        CHECK.due("a store between", skippedBy(9, Code.add(0, 1), Code.store(2, 1), 0, Code.add(0, 1), Code.HALT), 0);
        CHECK.due("a division between", skippedBy(9, Code.add(0, 1), Code.divide(2, 1), Code.add(0, 1), Code.HALT), 0);
        CHECK.due("a fill between", skippedBy(9, Code.add(0, 1), Code.FILL, Code.add(0, 1), Code.HALT), 0);
        CHECK.due("a jump between", skippedBy(9, Code.add(0, 1), Code.ALWAYS, 0, Code.add(0, 1), Code.HALT), 0);
        CHECK.due("a fault behind", skippedBy(9, Code.add(0, 1), 255), 0);
        CHECK.due("in the next block", skippedBy(9, 16, 16, 16, 16, 16, 16, 16, Code.add(0, 1), Code.add(0, 1), Code.HALT), 0);
        CHECK.due("a load ahead", skippedBy(9, Code.load(2, 1), 0, Code.add(0, 1), Code.add(0, 1), Code.HALT), 1);
    }

    private static void flagsAndSteps() {
        int[] code = {Code.compare(0, 1), Code.copy(2, 3), Code.out(3), Code.and(0, 0), Code.HALT};
        CHECK.due("with three steps", skippedBy(3, code), 0);
        CHECK.due("with four steps", skippedBy(4, code), 1);
        HotTranslator three = with(1, code);
        three.setRegister(1, 100);
        three.run(3);
        CHECK.due("flags with three steps", Code.flags(three), "sc");
        three.run(1);
        CHECK.due("flags behind the fourth", Code.flags(three), "z");
        HotTranslator late = with(1, 16, 48, 48, 48, 0);
        late.run(3);
        CHECK.due("one of two with three steps", late.skipped(), 1);
    }
}
