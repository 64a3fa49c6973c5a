import java.util.Arrays;

/**
 * The boundary cases that the document names under "Blocks", "Long blocks" and "Flags", and those of promises 17 to
 * 41 that are answers and not refusals; the words between quotes are the document's.
 */
public final class BlockBoundaryTest {
    private static final int PLAIN = Code.copy(0, 0);
    private static final Check CHECK = new Check("BlockBoundaryTest");

    public static void main(String[] args) {
        tierZeroDoesNothing();
        tierOneAtFirst();
        atMostEight();
        sameSixtyFourBytes();
        bytesBehindTheSixtyFour();
        alsoAsItsOnlyOne();
        bytesOfFaults();
        numbersFromZero();
        fullCache();
        fullCacheOfTwelve();
        cacheOfOne();
        cacheThatShrinks();
        flushes();
        for (int tier = 0; tier <= 2; tier++) {
            bytesWritten(tier);
            sameValuesWritten(tier);
        }
        bytesPoked();
        wordsOverTheNextBlock();
        leftBehindTheInstruction();
        leftBehindTheLastInstruction();
        leftBehindAByteOfAFill();
        leftWithoutALink();
        enteredAsARunBegins();
        notEnteredWithoutAStep();
        noLinkForReturns();
        noLinkBehindAnInterrupt();
        noPartBehindAnInterrupt();
        linksOfBothWays();
        linkOfABlockThatIsThrownAway();
        linksToTheTwelfth();
        hotByThisEntry();
        hotOrMore();
        partsOfLongBlocks();
        upToOneThatIsInIt();
        linkPutAheadOfTheEntry();
        sideExitOnce();
        notFollowedByTheGuard();
        lastPartHasNoGuard();
        runsThatEndInLongBlocks();
        longBlocksGo();
        flagsWithinSteps();
        flagsOfTheEighth();
        sameByFromNoBlocks();
        sharesAndMeans();
        CHECK.end();
    }

    private static HotTranslator at(int tier, int address, int... bytes) {
        HotTranslator x = new HotTranslator();
        x.setTier(tier);
        Code.put(x, address, bytes);
        x.goTo(address);
        return x;
    }

    /** A memory of instructions that do nothing. */
    private static HotTranslator plains() {
        HotTranslator x = new HotTranslator();
        for (int i = 0; i < 256; i++) {
            x.poke(i, PLAIN);
        }
        return x;
    }

    /** Makes one step at a place, so that the block there is made, and tells its start, length and bytes. */
    private static String shape(HotTranslator x, int place) {
        x.goTo(place);
        x.run(1);
        int block = x.made() - 1;
        return x.startOf(block) + " " + x.lengthOf(block) + " " + x.bytesOf(block);
    }

    /** Jumps from 0 to 10, 20, .. up to the last one, which jumps back to the first. */
    private static HotTranslator ring(int tier, int blocks) {
        HotTranslator x = new HotTranslator();
        for (int i = 0; i < blocks; i++) {
            Code.put(x, 10 * i, Code.ALWAYS, i + 1 < blocks ? 8 : Code.far(-10 * i - 2));
        }
        x.setTier(tier);
        x.setHot(2);
        return x;
    }

    /** "By the tier 0, instructions are done one by one, and the translator does nothing". */
    private static void tierZeroDoesNothing() {
        HotTranslator x = at(0, 0, Code.add(0, 1), Code.add(0, 1), Code.ALWAYS, Code.far(-4));
        x.run(498);
        CHECK.due("by tier 0", Told.counts(x) + " " + x.skipped() + " " + x.steps(), "0 0 0 0 0 0 0 0 498");
        x.setTier(1);
        x.run(6);
        CHECK.due("by tier 1", Told.counts(x) + " " + x.skipped(), "1 1 2 0 0 0 0 2");
        x.setTier(0);
        x.run(498);
        CHECK.due("by tier 0 again", Told.counts(x) + " " + x.skipped(), "1 1 2 0 0 0 0 2");
        CHECK.due("the block by tier 0", Told.block(x, 0), "0 3 4 2 0 - 0");
    }

    /** setTier: "1 at first"; by it no long block is made. */
    private static void tierOneAtFirst() {
        HotTranslator x = ring(1, 2);
        HotTranslator y = new HotTranslator();
        Code.put(y, 0, Code.ALWAYS, 8);
        Code.put(y, 10, Code.ALWAYS, Code.far(-12));
        y.setHot(2);
        x.run(500);
        y.run(500);
        CHECK.due("the tier at first", Told.all(y), Told.all(x));
        CHECK.due("blocks, but no long ones", Told.counts(y), "2 2 3 497 0 0 0");
    }

    /** "at most 8". */
    private static void atMostEight() {
        for (int count = 0; count <= 9; count++) {
            HotTranslator x = new HotTranslator();
            HotTranslator jump = new HotTranslator();
            for (int i = 0; i < count; i++) {
                x.poke(i, PLAIN);
                jump.poke(i, PLAIN);
            }
            jump.poke(count, Code.ALWAYS);
            int length = Math.min(8, count + 1);
            CHECK.due(count + " ahead of a halt", shape(x, 0), "0 " + length + " " + length);
            CHECK.due(count + " ahead of a jump", shape(jump, 0), "0 " + length + " " + (length + (count < 8 ? 1 : 0)));
        }
        HotTranslator words = new HotTranslator();
        for (int i = 0; i < 10; i++) {
            words.poke(3 * i, Code.constant(1));
        }
        CHECK.due("eight of three bytes", shape(words, 0), "0 8 24");
    }

    /** "only those whose first byte lies in the same 64 bytes as that of the first one". */
    private static void sameSixtyFourBytes() {
        for (int region = 0; region < 256; region += 64) {
            HotTranslator x = plains();
            CHECK.due("the first of 64", shape(x, region), region + " 8 8");
            CHECK.due("the last but eight", shape(x, region + 55), region + 55 + " 8 8");
            CHECK.due("the last eight", shape(x, region + 56), region + 56 + " 8 8");
            CHECK.due("the last seven", shape(x, region + 57), region + 57 + " 7 7");
            CHECK.due("the last two", shape(x, region + 62), region + 62 + " 2 2");
            CHECK.due("the last one", shape(x, region + 63), region + 63 + " 1 1");
        }
    }

    /** The same, for instructions whose other bytes lie behind the 64: these are bytes of the block, too. */
    private static void bytesBehindTheSixtyFour() {
        for (int region = 0; region < 192; region += 64) {
            for (int place = 60; place <= 63; place++) {
                HotTranslator x = plains();
                x.poke(region + place, Code.constant(1));
                String due = region + 60 + " " + (place == 60 || place == 61 ? 2 : place - 59) + " " + (place == 60 ? 4 : place - 57);
                CHECK.due("a word behind " + (region + place), shape(x, region + 60), due);
                int end = region + 60 + x.bytesOf(0);
                x.poke(end, PLAIN);
                CHECK.due("a poke behind it", x.blocks(), 1);
                x.poke(end - 1, PLAIN);
                CHECK.due("a poke to its last byte", x.blocks(), 0);
            }
        }
        HotTranslator end = plains();
        end.poke(252, Code.constant(1));
        CHECK.due("a word at 253", shape(end, 252), "252 2 4");
        end.poke(253, Code.constant(1));
        CHECK.due("a word at 254", shape(end, 253), "253 1 3");
    }

    /** "up to the first one with the op 0, 9, 10 or 11, or that would be a fault .., also as its only one". */
    private static void alsoAsItsOnlyOne() {
        HotTranslator x = plains();
        x.setRegister(3, 100);
        int[] ends = {Code.HALT, Code.ALWAYS, Code.IF_ZERO, Code.CALL, Code.RETURN, 240};
        int[] bytes = {1, 2, 2, 2, 1, 1};
        for (int i = 0; i < ends.length; i++) {
            x.poke(10 * i, ends[i]);
            CHECK.due("alone: " + ends[i], shape(x, 10 * i), 10 * i + " 1 " + bytes[i]);
            x.flush();
            CHECK.due("behind another: " + ends[i], shape(x, 10 * i + 255 & 255), i == 0 ? "255 1 1" : 10 * i - 1 + " 2 " + (bytes[i] + 1));
        }
        x.poke(255, Code.load(0, 0));
        CHECK.due("a fault x alone", shape(x, 255), "255 1 1");
        x.goTo(255);
        x.poke(255, PLAIN);
        x.run(2);
        CHECK.due("a fault x alone without bytes", Told.block(x, x.made() - 1), "256 1 0 1 - - 0");
        int alone = x.made() - 1;
        x.goTo(255);
        x.run(1);
        CHECK.due("it is the next place", x.place() + " " + x.entries(alone), "256 1");
        x.run(1);
        CHECK.due("it is looked up, and not made again", x.made() - 1 + " " + x.entries(alone), alone + " 2");
    }

    /** "of one with the fault 'x' or 'i' those that are there up to the first byte alone for 'i'". */
    private static void bytesOfFaults() {
        HotTranslator x = plains();
        x.poke(254, Code.constant(0));
        CHECK.due("two of three bytes are there", shape(x, 252), "252 3 4");
        x.poke(255, 1);
        CHECK.due("the second one is its byte", x.blocks(), 0);
        x.poke(254, PLAIN);
        x.poke(255, Code.constant(0));
        CHECK.due("one of three bytes is there", shape(x, 252), "252 4 4");
        x.poke(255, Code.CALL);
        CHECK.due("one of two bytes is there", shape(x, 252), "252 4 4");
        x.poke(254, 33);
        CHECK.due("the first byte alone", shape(x, 252), "252 3 3");
        x.poke(255, 1);
        CHECK.due("the next one is none of its bytes", x.blocks(), 1);
        x.poke(254, 33);
        CHECK.due("the first one is its byte", x.blocks(), 0);
        HotTranslator outside = at(1, 0, Code.ALWAYS, Code.far(-3));
        outside.run(9);
        for (int i = 2; i < 256; i++) {
            outside.poke(i, 0);
        }
        CHECK.due("no byte is there", Told.block(outside, 1), "65535 1 0 1 - - 0");
        CHECK.due("it is sound", outside.isSound(), true);
        CHECK.due("and can be thrown away", outside.flush() + " " + outside.blocks() + " " + outside.isKept(1), "2 0 false");
    }

    /** "Blocks are numbered from 0 as they are made": a number is not used again. */
    private static void numbersFromZero() {
        HotTranslator x = plains();
        for (int turn = 0; turn < 30; turn++) {
            shape(x, turn % 3);
            CHECK.due("number", x.blockAt(turn % 3) + " " + x.made(), turn + " " + (turn + 1));
            x.poke(turn % 3, PLAIN);
        }
        CHECK.due("all thrown away", x.discarded() + " " + x.blocks(), "30 0");
        for (int block = 0; block < 30; block++) {
            CHECK.due("isKept " + block, x.isKept(block), false);
        }
    }

    /** "If as many are kept as can be, the earliest one that is kept is thrown away ahead of making one"; "8 at first". */
    private static void fullCache() {
        HotTranslator x = plains();
        for (int i = 0; i < 8; i++) {
            shape(x, 10 * i);
        }
        CHECK.due("eight", x.blocks() + " " + x.discarded() + x.isKept(0), "8 0true");
        x.goTo(0);
        x.run(1);
        CHECK.due("one that is kept is not made", x.made() + " " + x.discarded() + " " + x.entries(0), "8 0 2");
        for (int i = 1; i < 8; i++) {
            x.goTo(10 * i);
            x.run(1);
            CHECK.due("ahead of making one alone: " + i, x.blocks() + " " + x.discarded() + x.isKept(0) + x.entries(i), "8 0true2");
        }
        shape(x, 80);
        CHECK.due("nine", x.blocks() + " " + x.discarded() + x.isKept(0) + x.isKept(1), "8 1falsetrue");
        x.poke(50, PLAIN);
        shape(x, 90);
        CHECK.due("a ninth where one has gone", x.blocks() + " " + x.discarded() + x.isKept(1), "8 2true");
        shape(x, 100);
        CHECK.due("the earliest that is kept", x.blocks() + " " + x.discarded() + x.isKept(1) + x.isKept(2), "8 3falsetrue");
    }

    /** setCache: "the number of blocks, 1 to 12". */
    private static void fullCacheOfTwelve() {
        HotTranslator x = plains();
        x.setCache(12);
        for (int i = 0; i < 12; i++) {
            CHECK.due("made", shape(x, 12 * i), 12 * i + (i == 5 ? " 4 4" : " 8 8"));
        }
        for (int i = 0; i < 12; i++) {
            CHECK.due("kept " + i, x.isKept(i) + " " + x.blockAt(12 * i) + " " + x.startOf(i), "true " + i + " " + 12 * i);
        }
        CHECK.due("twelve", x.blocks() + " " + x.discarded() + x.isSound(), "12 0true");
        x.poke(132, PLAIN);
        CHECK.due("the twelfth is thrown away", x.blocks() + " " + x.isKept(11) + x.isKept(10), "11 falsetrue");
        shape(x, 132);
        CHECK.due("twelve again", x.blocks() + " " + x.isKept(12) + x.isKept(0), "12 truetrue");
        shape(x, 144);
        CHECK.due("thirteen", x.blocks() + " " + x.discarded() + x.isKept(13) + x.isKept(0) + x.isSound(), "12 2truefalsetrue");
        CHECK.due("flush of twelve", x.flush() + " " + x.blocks() + " " + x.discarded() + x.isKept(13), "12 0 14false");
        for (int i = 0; i < 12; i++) {
            shape(x, 12 * i);
        }
        x.setCache(1);
        CHECK.due("one of twelve", x.blocks() + " " + x.discarded() + x.isKept(24) + x.isKept(25), "1 25falsetrue");
    }

    /** A cache of one: each block that is made throws the one before away. */
    private static void cacheOfOne() {
        HotTranslator x = ring(1, 2);
        x.setCache(1);
        CHECK.due("two in one", x.run(20) + "; " + Told.counts(x) + "; " + Told.block(x, 19), "20; 20 1 20 0 0 0 19; 10 1 2 1 - - 0");
        CHECK.due("sound", x.isSound(), true);
        HotTranslator one = ring(2, 1);
        one.setCache(1);
        CHECK.due("one in one", one.run(20) + "; " + Told.counts(one) + "; " + Told.block(one, 0), "20; 1 1 2 18 0 0 0; 0 1 2 20 0 - 0");
    }

    /** setCache: "the earliest ones are thrown away if there are more". */
    private static void cacheThatShrinks() {
        HotTranslator x = plains();
        for (int i = 0; i < 5; i++) {
            shape(x, 10 * i);
        }
        CHECK.due("as many as there are", x.setCache(5) + " " + x.blocks() + " " + x.discarded(), "8 5 0");
        CHECK.due("one less", x.setCache(4) + " " + x.blocks() + " " + x.discarded() + x.isKept(0) + x.isKept(1), "5 4 1falsetrue");
        CHECK.due("one alone", x.setCache(1) + " " + x.blocks() + " " + x.discarded() + x.isKept(3) + x.isKept(4), "4 1 4falsetrue");
        CHECK.due("more again", x.setCache(12) + " " + x.blocks() + " " + x.discarded() + x.isKept(4), "1 1 4true");
    }

    /** flush: "Returns how many were thrown away", also if there is none. */
    private static void flushes() {
        HotTranslator x = plains();
        CHECK.due("none", x.flush() + " " + x.discarded(), "0 0");
        shape(x, 0);
        CHECK.due("one", x.flush() + " " + x.discarded() + " " + x.blocks(), "1 1 0");
        CHECK.due("none is left", x.flush() + " " + x.discarded(), "0 1");
        // 0, 10, 0 are looked up, then two links are followed, up to the third entry of 0, and one behind the long block
        HotTranslator figures = at(2, 0, Code.compare(0, 1), Code.compare(0, 1), Code.IF_ZERO, 6, Code.HALT);
        Code.put(figures, 10, Code.ALWAYS, Code.far(-12));
        figures.setHot(3);
        figures.run(16);
        figures.setRegister(0, 1);
        figures.run(9);
        CHECK.due("figures ahead of it", Told.counts(figures) + " " + figures.skipped() + " " + figures.steps(), "3 3 5 3 1 1 0 5 20");
        figures.flush();
        CHECK.due("they stay", Told.counts(figures) + " " + figures.skipped() + " " + figures.steps(), "3 0 5 3 1 1 3 5 20");
    }

    /** A block of four bytes at 100, made by tier 1, and code at 0 that writes by the tier given. */
    private static HotTranslator writer(int tier, int... code) {
        HotTranslator x = at(1, 100, Code.constant(1), 9, 1, Code.HALT);
        x.run(2);
        x.setTier(tier);
        Code.put(x, 0, code);
        Code.put(x, 10, Code.HALT);
        x.goTo(0);
        return x;
    }

    /** "each block that has a byte which the guest writes": by ops 8, 10 and 13 and by interrupts, by each tier. */
    private static void bytesWritten(int tier) {
        for (int address = 97; address <= 105; address++) {
            boolean isWordApart = address < 99 || address > 103;
            boolean isByteApart = address < 100 || address > 103;
            HotTranslator store = writer(tier, Code.store(0, 1), 0, Code.HALT);
            store.setRegister(1, address);
            store.run(9);
            CHECK.due("a word stored at " + address, store.isKept(0), isWordApart);
            HotTranslator call = writer(tier, Code.CALL, 8);
            call.setRegister(3, address + 2);
            call.run(9);
            CHECK.due("a call's word at " + address, call.isKept(0), isWordApart);
            HotTranslator interrupt = writer(tier, Code.ALWAYS, 8);
            interrupt.setRegister(3, address + 2);
            interrupt.interrupt(20);
            interrupt.run(9);
            CHECK.due("an interrupt's word at " + address, interrupt.isKept(0), isWordApart);
            HotTranslator fill = writer(tier, Code.FILL, Code.HALT);
            Code.registers(fill, 7, address, 1);
            fill.run(9);
            CHECK.due("a byte filled at " + address, fill.isKept(0), isByteApart);
            HotTranslator load = writer(tier, Code.load(0, 1), 0, Code.HALT);
            load.setRegister(1, address);
            load.run(9);
            CHECK.due("a word loaded at " + address, load.isKept(0), true);
            HotTranslator back = writer(tier, Code.RETURN);
            back.setRegister(3, address);
            CHECK.due("a return by the word at " + address, back.run(1) + " " + back.isKept(0), "1 true");
        }
        HotTranslator up = writer(tier, Code.FILL, Code.HALT);
        Code.registers(up, 7, 90, 10);
        up.run(99);
        CHECK.due("a fill up to 99", up.isKept(0), true);
        HotTranslator none = writer(tier, Code.FILL, Code.HALT);
        Code.registers(none, 7, 100, 0);
        none.run(9);
        CHECK.due("a fill of none", none.isKept(0), true);
        HotTranslator fault = writer(tier, Code.store(0, 1), 255, Code.HALT);
        fault.setRegister(1, 0);
        fault.run(9);
        CHECK.due("a store that is a fault", fault.isKept(0) + " " + fault.fault(), "true m");
    }

    /** "to whatever value": of the guest. */
    private static void sameValuesWritten(int tier) {
        HotTranslator x = writer(tier, Code.store(0, 1), 0, Code.HALT);
        Code.registers(x, Code.constant(1) + 256 * 9, 100);
        x.run(9);
        CHECK.due("a word of the same value", x.isKept(0) + " " + x.peek(100) + " " + x.peek(101), "false 36 9");
        HotTranslator fill = writer(tier, Code.FILL, Code.HALT);
        Code.registers(fill, 9, 101, 1);
        fill.run(9);
        CHECK.due("a byte of the same value", fill.isKept(0) + " " + fill.peek(101), "false 9");
    }

    /** "or poke() sets, to whatever value". */
    private static void bytesPoked() {
        for (int address = 98; address <= 105; address++) {
            for (int change = 0; change <= 1; change++) {
                HotTranslator x = writer(1, Code.HALT);
                x.poke(address, x.peek(address) + change);
                boolean isApart = address < 100 || address > 103;
                CHECK.due("a poke at " + address, x.isKept(0) + " " + x.blocks() + " " + x.discarded(), isApart ? "true 1 0" : "false 0 1");
            }
        }
        HotTranslator x = plains();
        shape(x, 100);
        shape(x, 104);
        shape(x, 107);
        x.poke(107, PLAIN);
        CHECK.due("a poke to three blocks", x.blocks() + " " + x.discarded(), "0 3");
    }

    /** A block is thrown away "behind this instruction", and not one that is made later of the same bytes. */
    private static void wordsOverTheNextBlock() {
        HotTranslator interrupt = at(1, 0, Code.ALWAYS, 8);
        Code.put(interrupt, 40, PLAIN, PLAIN, PLAIN, Code.HALT);
        interrupt.goTo(40);
        interrupt.run(9);
        // the word is that of the place 16 + 256 * 0, an instruction that does nothing and a halt
        interrupt.poke(1, 14);
        interrupt.goTo(0);
        interrupt.setRegister(3, 43);
        interrupt.interrupt(40);
        CHECK.due("an interrupt's word over its own code", interrupt.run(9) + "; " + Told.counts(interrupt), "4; 3 2 3 0 0 0 1");
        CHECK.due("made once, behind the word", interrupt.isKept(0) + "; " + Told.block(interrupt, 2), "false; 40 3 3 1 - - 0");
        HotTranslator call = at(1, 14, Code.CALL, 24);
        Code.put(call, 40, PLAIN, PLAIN, PLAIN, Code.HALT);
        call.goTo(40);
        call.run(9);
        call.goTo(14);
        call.setRegister(3, 43);
        CHECK.due("a call's word over the code it leads to", call.run(9) + "; " + Told.counts(call), "4; 3 2 3 0 0 0 1");
        CHECK.due("made once, behind the call", call.isKept(0) + "; " + Told.block(call, 2), "false; 40 3 3 1 - - 0");
        CHECK.due("with the link of the call", Told.block(call, 1), "14 1 2 1 2 - 0");
    }

    /** "if the block that runs is thrown away, it is left behind this instruction": ahead of what was written. */
    private static void leftBehindTheInstruction() {
        HotTranslator next = at(1, 0, Code.store(0, 1), 2, PLAIN, PLAIN, PLAIN);
        CHECK.due("a store over the next one", next.run(9) + "; " + Told.counts(next) + "; " + Told.block(next, 1), "2; 2 1 2 0 0 0 1; 2 1 1 1 - - 0");
        HotTranslator last = at(1, 0, Code.store(0, 1), 3, PLAIN, PLAIN, PLAIN);
        CHECK.due("a store over the last ones", last.run(9) + "; " + Told.counts(last) + "; " + Told.block(last, 1), "3; 2 1 2 0 0 0 1; 2 2 2 1 - - 0");
        HotTranslator own = at(1, 0, Code.store(0, 1), 0, PLAIN, PLAIN);
        CHECK.due("a store over itself", own.run(9) + "; " + Told.counts(own) + "; " + Told.block(own, 1), "4; 2 1 2 0 0 0 1; 2 3 3 1 - - 0");
        HotTranslator past = at(1, 0, PLAIN, PLAIN, Code.store(0, 1), 0, PLAIN);
        CHECK.due("a store over what was done", past.run(9) + "; " + Told.counts(past) + "; " + Told.block(past, 1), "5; 2 1 2 0 0 0 1; 4 2 2 1 - - 0");
        HotTranslator behind = at(1, 0, Code.store(0, 1), 5, PLAIN, PLAIN, Code.HALT);
        CHECK.due("a store behind it", behind.run(9) + "; " + Told.counts(behind), "4; 1 1 1 0 0 0 0");
    }

    /** The same, behind the last one: the block is not kept, so that it has no link. */
    private static void leftBehindTheLastInstruction() {
        HotTranslator x = at(1, 0, Code.CALL, 8);
        x.setRegister(3, 2);
        CHECK.due("a call over itself", x.run(9) + "; " + Told.counts(x) + "; " + Told.block(x, 1), "2; 2 1 2 0 0 0 1; 10 1 1 1 - - 0");
        HotTranslator eighth = plains();
        Code.put(eighth, 7, Code.store(0, 1), 0);
        Code.put(eighth, 9, Code.HALT);
        Code.registers(eighth, 0, 7);
        CHECK.due("the eighth over itself", eighth.run(20) + "; " + Told.counts(eighth) + "; " + Told.block(eighth, 1), "9; 2 1 2 0 0 0 1; 9 1 1 1 - - 0");
    }

    /** "or byte of a fill": the block at the fill is made anew for the next byte. */
    private static void leftBehindAByteOfAFill() {
        HotTranslator x = plains();
        x.poke(0, Code.FILL);
        Code.registers(x, PLAIN, 5, 4, 0);
        CHECK.due("three bytes in the block, one behind it", x.run(4) + " " + x.place() + "; " + Told.counts(x), "4 1; 4 1 4 0 0 0 3");
        CHECK.due("the last block at the fill", Told.block(x, 3), "0 8 8 1 - - 0");
        HotTranslator last = plains();
        last.poke(0, Code.FILL);
        Code.registers(last, PLAIN, 7, 1, 0);
        CHECK.due("the last byte of a fill", last.run(2) + " " + last.place() + "; " + Told.counts(last) + "; " + Told.block(last, 1), "2 2; 2 1 2 0 0 0 1; 1 8 8 1 - - 0");
    }

    /** "otherwise, it is looked up": behind a block that was left, or a return, no earlier block's link is put. */
    private static void leftWithoutALink() {
        HotTranslator x = at(1, 0, Code.ALWAYS, 8);
        Code.put(x, 10, Code.store(0, 1), 12, PLAIN, PLAIN, Code.HALT);
        Code.registers(x, PLAIN + 256 * PLAIN, 0);
        CHECK.due("left in its middle", x.run(9) + "; " + Told.counts(x), "5; 3 2 3 0 0 0 1");
        CHECK.due("no link to the one behind", Told.block(x, 0) + "; " + Told.block(x, 2), "0 1 2 1 - - 0; 12 3 3 1 - - 0");
        HotTranslator y = at(1, 0, Code.ALWAYS, 8);
        y.poke(10, Code.RETURN);
        y.poke(100, 20);
        y.setRegister(3, 100);
        CHECK.due("behind a return", y.run(9) + "; " + Told.counts(y), "3; 3 3 3 0 0 0 0");
        CHECK.due("the link to the return stays", Told.block(y, 0) + "; " + Told.block(y, 1), "0 1 2 1 1 - 0; 10 1 1 1 - - 0");
    }

    /** "as a run begins": this is not behind a block, so that no link is followed or put. */
    private static void enteredAsARunBegins() {
        HotTranslator x = ring(1, 2);
        for (int i = 0; i < 6; i++) {
            x.run(1);
        }
        CHECK.due("runs of one block", Told.counts(x) + "; " + Told.block(x, 0), "2 2 6 0 0 0 0; 0 1 2 3 - - 0");
        x.run(6);
        CHECK.due("a run of six", Told.counts(x) + "; " + Told.block(x, 0), "2 2 9 3 0 0 0; 0 1 2 6 1 - 0");
        x.run(1);
        CHECK.due("a run of one behind it", Told.counts(x), "2 2 10 3 0 0 0");
    }

    /** "Lets the guest make steps, but not more": behind the last step no block is entered. */
    private static void notEnteredWithoutAStep() {
        HotTranslator x = ring(2, 4);
        for (int steps = 1; steps <= 4; steps++) {
            x.flush();
            x.goTo(0);
            int before = x.made();
            int lookUps = x.lookUps();
            x.run(steps);
            CHECK.due("blocks of " + steps + " steps", x.made() - before + " " + (x.lookUps() - lookUps), steps + " " + steps);
        }
        HotTranslator fault = at(1, 0, Code.ALWAYS, Code.far(-3));
        CHECK.due("no fault without a step", fault.run(1) + " " + fault.made() + fault.state(), "1 1r");
        CHECK.due("a fault ahead of a step", fault.run(1) + " " + fault.made() + fault.state(), "0 2f");
    }

    /** "a block has a link for each of them, but none for op 11": at each place of a block. */
    private static void noLinkForReturns() {
        for (int ahead = 0; ahead <= 7; ahead++) {
            HotTranslator x = plains();
            x.poke(ahead, Code.RETURN);
            x.poke(ahead + 1, Code.HALT);
            x.poke(100, ahead + 1);
            x.poke(101, 0);
            x.setRegister(3, 100);
            CHECK.due(ahead + " ahead of a return", x.run(20) + "; " + Told.counts(x), ahead + 2 + "; 2 2 2 0 0 0 0");
            CHECK.due("it has no link", Told.block(x, 0), "0 " + (ahead + 1) + " " + (ahead + 1) + " 1 - - 0");
        }
        HotTranslator next = plains();
        next.poke(8, Code.RETURN);
        next.poke(101, 0);
        next.setRegister(3, 100);
        next.run(10);
        CHECK.due("a return behind eight", Told.block(next, 0) + "; " + Told.block(next, 1), "0 8 8 1 - 1 0; 8 1 1 1 - - 0");
    }

    /** "and none behind an interrupt": neither put nor followed. */
    private static void noLinkBehindAnInterrupt() {
        HotTranslator x = ring(1, 2);
        x.setRegister(3, 200);
        x.interrupt(10);
        x.run(2);
        CHECK.due("not put, also if it leads to the same place", Told.counts(x) + "; " + Told.block(x, 0), "2 2 2 0 0 0 0; 0 1 2 1 - - 0");
        x.goTo(0);
        x.run(2);
        CHECK.due("put without one", Told.block(x, 0), "0 1 2 2 1 - 0");
        x.goTo(0);
        x.interrupt(10);
        x.run(2);
        CHECK.due("not followed, also if it leads to the same place", Told.counts(x) + "; " + Told.block(x, 0), "2 2 6 0 0 0 0; 0 1 2 3 1 - 0");
    }

    /** The same in a long block; "with no interrupt that is taken": not even one to the place of the next part. */
    private static void noPartBehindAnInterrupt() {
        HotTranslator same = ring(2, 3);
        same.run(4);
        same.goTo(0);
        same.setRegister(3, 200);
        same.interrupt(10);
        CHECK.due("to the next part", same.run(2) + " " + same.place() + " " + same.interrupts(), "2 20 1");
        CHECK.due("a side exit, and a look-up", Told.counts(same) + "; " + Told.block(same, 0) + "; " + Told.block(same, 1), "3 3 6 0 2 1 0; 0 1 2 3 1 - 3; 10 1 2 2 2 - 3");
        HotTranslator other = ring(2, 3);
        other.run(4);
        other.goTo(0);
        other.setRegister(3, 200);
        other.interrupt(100);
        CHECK.due("to another place", other.run(9) + " " + other.place() + " " + other.interrupts(), "2 101 1");
        CHECK.due("no link is put", Told.counts(other) + "; " + Told.block(other, 0), "4 4 6 0 1 1 0; 0 1 2 3 1 - 3");
    }

    /** "The ways are that by a jump that is taken or a call, and that by going on behind": with both to one place. */
    private static void linksOfBothWays() {
        HotTranslator x = at(1, 0, Code.compare(0, 1), Code.IF_ZERO, 0, Code.HALT);
        x.run(9);
        CHECK.due("the way by the jump", Told.counts(x) + "; " + Told.block(x, 0), "2 2 2 0 0 0 0; 0 2 3 1 1 - 0");
        x.setRegister(0, 1);
        x.goTo(0);
        x.run(9);
        CHECK.due("the way behind", Told.counts(x) + "; " + Told.block(x, 0), "2 2 4 0 0 0 0; 0 2 3 2 1 1 0");
        x.goTo(0);
        x.run(9);
        CHECK.due("the way behind again", Told.counts(x) + "; " + Told.block(x, 0), "2 2 5 1 0 0 0; 0 2 3 3 1 1 0");
        HotTranslator call = at(1, 0, Code.CALL, 0, Code.HALT);
        call.setRegister(3, 100);
        call.run(9);
        CHECK.due("a call to the place behind", Told.block(call, 0), "0 1 2 1 1 - 0");
    }

    /** "behind a block .. which is still kept": the one that is thrown away for the next one gets no link. */
    private static void linkOfABlockThatIsThrownAway() {
        HotTranslator x = ring(1, 3);
        x.setCache(2);
        x.run(3);
        CHECK.due("the earliest is not the one behind", Told.counts(x) + "; " + Told.block(x, 1), "3 2 3 0 0 0 1; 10 1 2 1 2 - 0");
        HotTranslator y = ring(1, 2);
        y.poke(20, Code.HALT);
        y.setCache(2);
        y.goTo(10);
        y.run(1);
        y.goTo(20);
        y.run(1);
        y.goTo(10);
        y.run(2);
        CHECK.due("the earliest is the one behind", Told.counts(y) + " " + y.isKept(0) + "; " + Told.block(y, 2), "3 2 4 0 0 0 1 false; 0 1 2 1 - - 0");
    }

    /** A ring of as many blocks as can be kept at most. */
    private static void linksToTheTwelfth() {
        HotTranslator x = ring(1, 12);
        x.setCache(12);
        x.run(25);
        CHECK.due("a ring of twelve", Told.counts(x), "12 12 13 12 0 0 0");
        CHECK.due("the twelfth", Told.block(x, 10) + "; " + Told.block(x, 11), "100 1 2 2 11 - 0; 110 1 2 2 0 - 0");
        x.poke(110, Code.ALWAYS);
        CHECK.due("the twelfth goes", Told.block(x, 10) + " " + x.isKept(11) + x.isSound(), "100 1 2 2 - - 0 falsetrue");
    }

    /** "has as many entries as are hot or more, this one counted": the entry ahead of that begins none. */
    private static void hotByThisEntry() {
        for (int hot : new int[] {2, 3, 4, 49, 50}) {
            HotTranslator x = ring(2, 2);
            x.setHot(hot);
            x.run(2 * hot - 2);
            CHECK.due("one entry less than " + hot, x.longBlocks() + " " + x.entries(0) + " " + x.partsOf(0), "0 " + (hot - 1) + " 0");
            HotTranslator y = ring(2, 2);
            y.setHot(hot);
            y.run(2 * hot - 1);
            CHECK.due("entry " + hot, y.longBlocks() + " " + y.entries(0) + " " + y.partsOf(0), "1 " + hot + " 2");
        }
        HotTranslator x = ring(2, 2);
        HotTranslator four = new HotTranslator();
        Code.put(four, 0, Code.ALWAYS, 8);
        Code.put(four, 10, Code.ALWAYS, Code.far(-12));
        four.setTier(2);
        four.run(6);
        CHECK.due("4 at first: three entries", four.longBlocks(), 0);
        x.setHot(4);
        x.run(6);
        x.goTo(0);
        x.run(1);
        four.goTo(0);
        four.run(1);
        CHECK.due("4 at first: four entries", four.longBlocks() + " " + Told.all(four).equals(Told.all(x)), "1 true");
    }

    /** "or more": as when the limit is set lower, or when it could not begin one before. */
    private static void hotOrMore() {
        HotTranslator x = ring(2, 2);
        x.setHot(50);
        x.run(40);
        CHECK.due("not hot", x.longBlocks() + " " + x.entries(0), "0 20");
        x.setHot(2);
        CHECK.due("not ahead of an entry", x.longBlocks() + " " + x.partsOf(0), "0 0");
        x.run(1);
        CHECK.due("more than hot", x.longBlocks() + " " + x.partsOf(0), "1 2");
        x.setHot(50);
        x.run(2);
        CHECK.due("it stays when it is not hot", x.longBlocks() + " " + x.partsOf(0), "1 2");
        int chained = x.chained();
        x.goTo(0);
        x.run(2);
        CHECK.due("and is run", x.chained() - chained + " " + x.entries(1), "0 22");
        HotTranslator late = at(2, 0, PLAIN, Code.HALT);
        late.setHot(2);
        for (int i = 0; i < 5; i++) {
            late.goTo(0);
            late.run(1);
        }
        CHECK.due("it cannot yet", late.longBlocks() + " " + late.entries(0), "0 5");
        late.poke(1, Code.ALWAYS);
        late.poke(2, 7);
        for (int i = 0; i < 3; i++) {
            late.goTo(0);
            late.run(9);
        }
        CHECK.due("it can later", late.longBlocks() + " " + late.partsOf(1), "1 2");
    }

    /** "at most 4 blocks, up to one without links ..; at least 2". */
    private static void partsOfLongBlocks() {
        int[] parts = {0, 0, 2, 3, 4, 4, 4};
        for (int blocks = 1; blocks <= 6; blocks++) {
            HotTranslator x = ring(2, blocks);
            x.run(blocks + 1);
            CHECK.due("a ring of " + blocks, x.partsOf(0) + " " + x.longBlocks(), parts[blocks] + " " + (blocks > 1 ? 1 : 0));
            HotTranslator open = ring(2, blocks);
            open.poke(10 * blocks - 10, Code.HALT);
            open.run(20);
            open.goTo(0);
            open.run(1);
            CHECK.due("a way of " + blocks, open.partsOf(0) + " " + open.longBlocks(), parts[blocks] + " " + (blocks > 1 ? 1 : 0));
        }
    }

    /** "or one that is in it already": also one that is not the first. */
    private static void upToOneThatIsInIt() {
        HotTranslator x = ring(2, 3);
        x.poke(21, Code.far(-12));
        x.run(5);
        CHECK.due("0, 10, 20, 10, 20", Told.counts(x) + " " + x.partsOf(1), "3 3 4 0 1 0 0 2");
        x.goTo(0);
        x.run(1);
        CHECK.due("up to 10, which is in it", x.partsOf(0) + " " + x.longBlocks(), "3 2");
        HotTranslator itself = ring(2, 2);
        itself.poke(11, Code.far(-2));
        itself.run(3);
        itself.goTo(0);
        itself.run(1);
        CHECK.due("up to 10, which leads to itself", itself.partsOf(0) + " " + itself.longBlocks() + " " + itself.partsOf(1), "2 1 0");
    }

    /** The link by which a block is looked up is put first: a long block that begins then goes by it. */
    private static void linkPutAheadOfTheEntry() {
        HotTranslator x = at(2, 0, Code.ALWAYS, 8);
        Code.put(x, 10, Code.subtract(0, 1), Code.IF_NOT_ZERO, Code.far(-13), Code.HALT);
        x.setHot(3);
        Code.registers(x, 1, 1);
        x.run(9);
        CHECK.due("the link behind", Told.block(x, 1), "10 2 3 1 - 2 0");
        Code.registers(x, 2, 1);
        x.goTo(0);
        x.run(4);
        CHECK.due("and the link back, put as the third entry is made", Told.block(x, 1) + " " + x.entries(0), "10 2 3 2 0 2 0 3");
        CHECK.due("the latest one leads to one that is in it", x.partsOf(0) + " " + x.longBlocks(), "2 1");
    }

    /** "otherwise, the long block is left, which is a side exit": one, and its parts are not looked for behind it. */
    private static void sideExitOnce() {
        HotTranslator x = at(2, 0, Code.compare(0, 1), Code.IF_ZERO, 7, Code.ALWAYS, 5);
        Code.put(x, 10, Code.ALWAYS, 8);
        x.setHot(2);
        for (int i = 0; i < 2; i++) {
            x.goTo(0);
            x.run(9);
        }
        CHECK.due("a long block of three", Told.counts(x) + " " + x.partsOf(0), "3 3 4 0 1 0 0 3");
        x.setRegister(0, 1);
        x.goTo(0);
        x.run(9);
        CHECK.due("a side exit, and on to a part of it", Told.counts(x), "4 4 7 0 2 1 0");
        CHECK.due("the links behind it", Told.block(x, 0) + "; " + Told.block(x, 3), "0 2 3 3 1 3 3; 3 1 2 1 1 - 0");
        x.goTo(0);
        x.run(9);
        CHECK.due("another one, by the link", Told.counts(x) + " " + x.partsOf(3), "4 4 8 1 3 2 0 3");
    }

    /** "without the link being followed": a link that the guard lets through is not the one that was followed last. */
    private static void notFollowedByTheGuard() {
        for (int tier = 1; tier <= 2; tier++) {
            HotTranslator x = at(2, 0, Code.ALWAYS, 8);
            Code.put(x, 10, Code.compare(0, 1), Code.IF_ZERO, 7, Code.HALT);
            Code.put(x, 20, Code.ALWAYS, 18);
            Code.put(x, 30, Code.ALWAYS, Code.far(-22));
            x.setHot(2);
            for (int i = 0; i < 2; i++) {
                x.goTo(0);
                x.run(9);
            }
            CHECK.due("a long block of 0, 10, 20, 40", Told.counts(x) + " " + x.partsOf(0), "4 4 5 0 1 0 0 4");
            x.setRegister(0, 1);
            x.goTo(10);
            x.run(9);
            CHECK.due("the way behind, its link put last", Told.counts(x) + "; " + Told.block(x, 1), "5 5 7 0 2 1 0; 10 2 3 3 2 4 3");
            x.setRegister(0, 0);
            x.setTier(tier);
            x.goTo(0);
            x.run(9);
            CHECK.due("the other way by tier " + tier, Told.counts(x) + " " + x.entries(2), "5 5 8 " + (tier == 1 ? 3 : 0) + " 2 1 0 3");
            x.setTier(2);
            for (int i = 0; i < 2; i++) {
                x.goTo(30);
                x.run(1);
                x.goTo(30);
                x.run(2);
            }
            CHECK.due("from 30 by the one used last, tier " + tier, x.partsOf(5), tier == 1 ? 4 : 3);
        }
    }

    /** "behind each of its blocks but the last one": leaving the last one is no side exit, wherever it leads. */
    private static void lastPartHasNoGuard() {
        HotTranslator x = at(2, 0, Code.ALWAYS, 8);
        Code.put(x, 10, Code.subtract(0, 1), Code.IF_NOT_ZERO, Code.far(-13), Code.HALT);
        x.setHot(2);
        Code.registers(x, 5, 1);
        CHECK.due("a loop of two parts", x.run(99) + "; " + Told.counts(x), "16; 3 3 4 3 1 0 0");
        Code.registers(x, 1, 1);
        x.goTo(0);
        x.run(99);
        CHECK.due("the last part leads elsewhere", Told.counts(x), "3 3 5 4 1 0 0");
    }

    /** "If a run ends, a block is left otherwise, .. it is left, .. without a side exit"; the next run looks up. */
    private static void runsThatEndInLongBlocks() {
        for (int steps = 1; steps <= 4; steps++) {
            HotTranslator x = ring(2, 4);
            x.run(4);
            x.goTo(0);
            x.run(steps);
            CHECK.due("a run that ends in part " + steps, Told.counts(x) + " " + x.partsOf(0), "4 4 5 0 1 0 0 4");
            x.goTo(0);
            x.run(4);
            CHECK.due("the long block again", Told.counts(x) + " " + x.entries(3), "4 4 6 0 1 0 0 " + (steps == 4 ? 3 : 2));
        }
        for (int part = 0; part < 4; part++) {
            HotTranslator x = new HotTranslator();
            for (int i = 0; i < 4; i++) {
                Code.put(x, 10 * i, i == part ? Code.divide(0, 1) : PLAIN, i == 3 ? Code.HALT : Code.ALWAYS, 7);
            }
            x.setTier(2);
            x.setHot(2);
            x.setRegister(1, 1);
            for (int turn = 0; turn < 2; turn++) {
                x.goTo(0);
                x.run(99);
            }
            CHECK.due("without a fault", Told.counts(x) + " " + x.partsOf(0), "4 4 5 0 1 0 0 4");
            x.setRegister(1, 0);
            x.goTo(0);
            CHECK.due("a fault in part " + part, x.run(99) + " " + x.place() + x.fault(), 2 * part + " " + 10 * part + "d");
            CHECK.due("it is no side exit", Told.counts(x) + " " + x.partsOf(0), "4 4 6 0 1 0 0 4");
        }
    }

    /** "Links to a block that is thrown away go, and long blocks that have it", whichever part it is. */
    private static void longBlocksGo() {
        for (int part = 0; part < 4; part++) {
            HotTranslator x = ring(2, 4);
            x.run(5);
            CHECK.due("four parts", x.partsOf(0) + " " + x.longBlocks(), "4 1");
            x.poke(10 * part + 1, x.peek(10 * part + 1));
            int before = (part + 3) % 4;
            CHECK.due("the link to part " + part, Told.link(x, before, true), "-");
            CHECK.due("the part", x.isKept(part) + " " + x.blocks() + x.isSound(), "false 3true");
            if (part != 0) {
                CHECK.due("the long block", x.partsOf(0), 0);
            }
        }
        String[] counts = {"5 4 8 0 2 0 1", "5 4 8 0 2 0 1", "5 4 8 1 1 0 1", "5 4 7 1 2 0 1"};
        for (int part = 0; part < 4; part++) {
            HotTranslator x = ring(2, 4);
            Code.put(x, 0, Code.store(0, 1), 0, Code.ALWAYS, 6);
            x.poke(30, Code.HALT);
            Code.registers(x, 0, 100);
            for (int turn = 0; turn < 2; turn++) {
                x.goTo(0);
                x.run(99);
            }
            CHECK.due("four parts, with a store", Told.counts(x) + " " + x.partsOf(0), "4 4 5 0 1 0 0 4");
            Code.registers(x, x.peek(10 * part) + 256 * x.peek(10 * part + 1), 10 * part);
            x.goTo(0);
            CHECK.due("a store over part " + part, x.run(99) + "; " + Told.counts(x), "5; " + counts[part]);
        }
    }

    /** "as many steps .., itself counted, as there are instructions from it up to the other one, this counted, too". */
    private static void flagsWithinSteps() {
        for (int ahead = 0; ahead <= 6; ahead++) {
            for (int between = 0; between <= 8; between++) {
                int[] others = {PLAIN, Code.out(3), Code.copy(2, 3)};
                int[] code = new int[ahead + between + 3];
                Arrays.fill(code, 0, ahead, PLAIN);
                code[ahead] = Code.compare(0, 1);
                for (int i = 1; i <= between; i++) {
                    code[ahead + i] = others[i % 3];
                }
                code[ahead + between + 1] = Code.compare(1, 0);
                int needed = ahead + between + 2;
                for (int steps = 1; steps <= 12; steps++) {
                    HotTranslator x = at(1, 0, code);
                    Code.registers(x, 1, 2);
                    x.run(steps);
                    String what = "flags with " + ahead + " ahead, " + between + " between, " + steps + " steps";
                    CHECK.due(what, x.skipped(), needed <= 8 && steps >= needed ? 1 : 0);
                    CHECK.due(what + ", as seen", Code.flags(x), steps >= needed ? "" : steps > ahead ? "sc" : "");
                }
            }
        }
    }

    /** "if another one in it sets them later": the last two of a block, and the last one with the next block's first. */
    private static void flagsOfTheEighth() {
        for (int first = 55; first <= 64; first++) {
            HotTranslator x = plains();
            Code.put(x, first, Code.compare(0, 1), Code.compare(0, 1));
            x.goTo(56);
            x.run(20);
            CHECK.due("two in the last eight of 64, from " + first, x.skipped(), first >= 56 && first <= 62 || first == 64 ? 1 : 0);
        }
        HotTranslator all = new HotTranslator();
        for (int i = 0; i < 8; i++) {
            all.poke(i, Code.compare(0, 1));
        }
        for (int steps = 1; steps <= 8; steps++) {
            int before = all.skipped();
            all.goTo(0);
            all.run(steps);
            CHECK.due("eight with " + steps + " steps", all.skipped() - before, steps - 1);
        }
    }

    /** "Returns whether the guest would be the same .., from no blocks": not from those of a call before. */
    private static void sameByFromNoBlocks() {
        for (int tier = 0; tier <= 2; tier++) {
            HotTranslator x = at(1, 0, Code.compare(0, 1), Code.compare(1, 2), Code.ALWAYS, Code.far(-4));
            x.setHot(2);
            x.setRegister(1, 7);
            CHECK.due("same", x.isSameBy(tier, 200), true);
            Code.put(x, 1, Code.IF_CARRY, 20);
            CHECK.due("same behind a poke", x.isSameBy(tier, 1) + " " + x.isSameBy(tier, 2) + " " + x.isSameBy(tier, 200), "true true true");
            CHECK.due("nothing changes by that", Told.counts(x) + " " + x.place() + " " + x.steps(), "0 0 0 0 0 0 0 0 0");
        }
        for (int tier = 0; tier <= 2; tier++) {
            HotTranslator set = ring(2, 2);
            set.setCache(3);
            set.setHot(7);
            set.setTier(tier);
            for (int other = 0; other <= 2; other++) {
                CHECK.due("by tier " + other, set.isSameBy(other, 200), true);
            }
            CHECK.due("the settings stay", set.setTier(1) + " " + set.setCache(1) + " " + set.setHot(2), tier + " 3 7");
        }
    }

    /** chainShare and meanLength: "the share of entries that came by a link", "the mean number of instructions". */
    private static void sharesAndMeans() {
        HotTranslator x = ring(1, 1);
        x.run(1);
        CHECK.due("no link followed", x.chainShare() + " " + x.meanLength(), "0.0 1.0");
        x.run(3);
        CHECK.due("one of four", x.chainShare() + " " + x.lookUps() + " " + x.chained(), "0.25 3 1");
        x.run(3);
        CHECK.due("three of seven", x.chainShare(), 3f / 7f);
        HotTranslator y = plains();
        y.run(1);
        CHECK.due("a block of eight", y.meanLength(), 8.0);
        y.poke(255, 240);
        y.goTo(255);
        y.run(1);
        CHECK.due("eight and one", y.meanLength(), 4.5);
        y.goTo(254);
        y.run(1);
        CHECK.due("eight, one and two", y.meanLength(), 11.0 / 3.0);
        y.flush();
        CHECK.due("of the blocks that were made", y.meanLength(), 11.0 / 3.0);
        HotTranslator guarded = ring(2, 2);
        guarded.run(100);
        CHECK.due("entries by a guard are none of both", guarded.lookUps() + guarded.chained() < 60, true);
    }
}
