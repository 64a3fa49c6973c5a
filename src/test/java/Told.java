import java.util.NoSuchElementException;
import java.util.function.Supplier;

/** Texts of what an object answers, so that answers, and whole objects, can be compared. */
final class Told {
    private Told() {
    }

    /** A kept block's start, length, bytes, entries, links by a jump and behind, and parts. */
    static String block(HotTranslator x, int block) {
        return x.startOf(block) + " " + x.lengthOf(block) + " " + x.bytesOf(block) + " " + x.entries(block) + " "
                + link(x, block, true) + " " + link(x, block, false) + " " + x.partsOf(block);
    }

    static String link(HotTranslator x, int block, boolean isTaken) {
        return orNone(() -> x.linkOf(block, isTaken));
    }

    /** The numbers of blocks made and kept, look-ups, links followed, long blocks, side exits, blocks thrown away. */
    static String counts(HotTranslator x) {
        return x.made() + " " + x.blocks() + " " + x.lookUps() + " " + x.chained() + " " + x.longBlocks() + " "
                + x.sideExits() + " " + x.discarded();
    }

    /** All that an object answers without being changed by it. */
    static String all(HotTranslator x) {
        StringBuilder told = new StringBuilder();
        for (int i = 0; i < 256; i++) {
            told.append(x.peek(i)).append(' ');
        }
        told.append(Code.registersOf(x)).append(' ').append(Code.flags(x)).append(' ').append(x.place()).append(x.state());
        told.append(orNone(x::fault)).append(x.interrupts()).append(x.waits()).append(x.outputs());
        for (int i = 0; i < Math.min(200, x.outputs()); i++) {
            told.append(' ').append(x.output(i));
        }
        told.append(" counts ").append(counts(x)).append(' ').append(x.skipped()).append(' ').append(x.steps());
        told.append(' ').append(orNone(x::chainShare)).append(' ').append(orNone(x::meanLength)).append(x.isSound());
        for (int i = 0; i < x.made(); i++) {
            told.append("; ").append(x.isKept(i) ? block(x, i) : "-");
        }
        for (int i = 0; i < 256; i++) {
            int at = i;
            told.append(' ').append(orNone(() -> x.blockAt(at)));
        }
        return told.toString();
    }

    private static String orNone(Supplier<Object> answer) {
        try {
            return String.valueOf(answer.get());
        } catch (NoSuchElementException | ArithmeticException none) {
            return "-";
        }
    }
}
