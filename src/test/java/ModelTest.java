import java.util.Map;
import java.util.NoSuchElementException;
import java.util.Random;
import java.util.TreeMap;

/** Runs of random calls on the class and on the model, which must answer alike. */
public final class ModelTest {
    private static final int RUNS = 4000;
    private static final int CALLS = 90;
    private static final Check CHECK = new Check("ModelTest");
    private static final TreeMap<String, Integer> SEEN = new TreeMap<>();
    private static final String[] WANTED = {
        "block that threw itself away", "guard passed", "interrupt that cannot be written",
        "left block thrown away by making one", "link followed", "long block goes by another part",
        "long block goes by the word of an interrupt", "long block goes with its running part",
        "long block of 2", "long block of 3", "long block of 4",
        "side exit by interrupt", "side exit by link", "side exit by look-up"
    };

    public static void main(String[] args) {
        for (int seed = 0; seed < RUNS; seed++) {
            run(seed);
        }
        for (String what : WANTED) {
            CHECK.due("seen: " + what, SEEN.getOrDefault(what, 0) > 20, true);
        }
        if (args.length > 0) {
            System.out.println(SEEN);
        }
        CHECK.end();
    }

    private static void run(int seed) {
        Random random = new Random(seed);
        HotTranslator x = new HotTranslator();
        Model model = new Model(SEEN);
        int span = 16 << random.nextInt(5);
        int base = random.nextInt(257 - span);
        program(random, x, model, base, span);
        model.tier = random.nextInt(8) == 0 ? 1 : 2;
        x.setTier(model.tier);
        model.hot = 2 + random.nextInt(3);
        x.setHot(model.hot);
        model.place = base;
        x.goTo(base);
        for (int call = 0; call < CALLS; call++) {
            String what = "run " + seed + " call " + call + " " + change(random, x, model, base, span);
            compare(what, x, model);
        }
    }

    private static void poke(HotTranslator x, Model model, int address, int value) {
        CHECK.due("poke", x.poke(address, value), model.memory[address]);
        model.write(address, value);
    }

    private static void setRegister(HotTranslator x, Model model, int register, int value) {
        CHECK.due("setRegister", x.setRegister(register, value), model.registers[register]);
        model.registers[register] = value;
    }

    private static int instruction(Random random) {
        int[] ops = {1, 2, 3, 3, 4, 4, 5, 6, 7, 8, 9, 9, 9, 9, 10, 11, 12, 13, 14};
        int op = ops[random.nextInt(ops.length)];
        int number = random.nextInt(16);
        if (random.nextInt(60) == 0) {
            return random.nextInt(256);
        }
        switch (op) {
            case 2: case 14:
                return 16 * op + number / 4 * 4;
            case 9:
                return 16 * op + number % 7;
            case 10: case 11: case 13:
                return 16 * op;
            default:
                return 16 * op + number;
        }
    }

    /** A program whose jumps mostly stay in it and mostly meet its instructions. */
    private static void program(Random random, HotTranslator x, Model model, int base, int span) {
        int[] starts = new int[span];
        int count = 0;
        int at = base;
        while (at < base + span) {
            starts[count++] = at;
            int first = instruction(random);
            poke(x, model, at, first);
            at += Math.max(1, Model.bytesOf(first));
        }
        for (int i = 0; i < count; i++) {
            int first = model.memory[starts[i]];
            int bytes = Model.bytesOf(first);
            for (int j = 1; j < bytes && starts[i] + j < 256; j++) {
                int value = random.nextInt(4) == 0 ? random.nextInt(256) : j == 2 ? 0 : random.nextInt(base + span);
                if (first / 16 == 9 || first / 16 == 10) {
                    int near = i + random.nextInt(13) - 8;
                    value = starts[Math.max(0, Math.min(count - 1, near))] - starts[i] - 2 & 255;
                }
                poke(x, model, starts[i] + j, value);
            }
        }
        for (int i = 0; i < 4; i++) {
            int value = random.nextInt(5) == 0 ? random.nextInt(65536) : i == 3 ? 2 * random.nextInt(129) : random.nextInt(260);
            setRegister(x, model, i, value);
        }
    }

    private static String change(Random random, HotTranslator x, Model model, int base, int span) {
        int kind = random.nextInt(40);
        if (model.state != 'r' && kind < 28) {
            kind = 28;
        }
        if (kind < 18) {
            int steps = random.nextInt(6) == 0 ? 1 + random.nextInt(500) : 1 + random.nextInt(40);
            CHECK.due("run", x.run(steps), model.run(steps));
            return "run(" + steps + ")";
        }
        if (kind < 24) {
            int address = random.nextInt(3) == 0 ? random.nextInt(256) : base + random.nextInt(span);
            if (random.nextInt(4) == 0) {
                // so that the interrupt's word often lies over the code
                setRegister(x, model, 3, base + random.nextInt(span) + 1);
            }
            CHECK.due("interrupt", x.interrupt(address), model.waiting);
            model.waiting = address;
            int steps = 1 + random.nextInt(60);
            CHECK.due("run", x.run(steps), model.run(steps));
            return "interrupt(" + address + "), run(" + steps + ")";
        }
        if (kind < 28) {
            int steps = 1 + random.nextInt(200);
            CHECK.due("isSameBy", x.isSameBy(random.nextInt(3), steps), true);
            return "isSameBy";
        }
        if (kind < 33) {
            int address = random.nextInt(4) == 0 ? random.nextInt(256) : base + random.nextInt(Math.min(span, 8));
            CHECK.due("goTo", x.goTo(address), model.place);
            model.place = address;
            model.state = 'r';
            model.jumped = false;
            return "goTo(" + address + ")";
        }
        if (kind == 33) {
            int address = base + random.nextInt(span);
            int value = random.nextInt(3) == 0 ? model.memory[address] : instruction(random);
            poke(x, model, address, value);
            return "poke(" + address + ", " + value + ")";
        }
        if (kind < 36) {
            int register = random.nextInt(4);
            int value = random.nextInt(5) == 0 ? random.nextInt(65536) : random.nextInt(260);
            setRegister(x, model, register, value);
            return "setRegister(" + register + ", " + value + ")";
        }
        return set(random, x, model);
    }

    private static String set(Random random, HotTranslator x, Model model) {
        switch (random.nextInt(8)) {
            case 0: case 1: case 2: {
                int size = 1 + random.nextInt(12);
                CHECK.due("setCache", x.setCache(size), model.cache);
                model.cache = size;
                model.shrink(size);
                return "setCache(" + size + ")";
            }
            case 3: {
                int hot = 2 + random.nextInt(8);
                CHECK.due("setHot", x.setHot(hot), model.hot);
                model.hot = hot;
                return "setHot(" + hot + ")";
            }
            case 4: {
                CHECK.due("flush", x.flush(), model.kept.size());
                model.shrink(0);
                return "flush()";
            }
            default: {
                int tier = Math.min(2, random.nextInt(6));
                CHECK.due("setTier", x.setTier(tier), model.tier);
                model.tier = tier;
                return "setTier(" + tier + ")";
            }
        }
    }

    private static void compare(String what, HotTranslator x, Model model) {
        StringBuilder got = new StringBuilder();
        StringBuilder want = new StringBuilder();
        guest(got, x);
        guest(want, model);
        figures(got, x);
        figures(want, model);
        blocks(got, x);
        blocks(want, model);
        CHECK.due(what, got.toString(), want.toString());
    }

    private static void guest(StringBuilder told, HotTranslator x) {
        for (int i = 0; i < 256; i++) {
            told.append(x.peek(i)).append(' ');
        }
        told.append("registers ").append(Code.registersOf(x)).append(' ').append(Code.flags(x));
        told.append(" place ").append(x.place()).append(' ').append(x.state());
        try {
            told.append(x.fault());
        } catch (NoSuchElementException none) {
            told.append('-');
        }
        told.append(" interrupts ").append(x.interrupts()).append(x.waits()).append(" outputs ").append(x.outputs());
        for (int i = 0; i < Math.min(200, x.outputs()); i += 7) {
            told.append(' ').append(x.output(i));
        }
    }

    private static void guest(StringBuilder told, Model model) {
        for (int i = 0; i < 256; i++) {
            told.append(model.memory[i]).append(' ');
        }
        int[] r = model.registers;
        told.append("registers ").append(r[0] + " " + r[1] + " " + r[2] + " " + r[3] + " ");
        told.append(model.z ? "z" : "").append(model.s ? "s" : "").append(model.c ? "c" : "");
        told.append(" place ").append(model.place).append(' ').append(model.state);
        told.append(model.state == 'f' ? model.fault : '-');
        told.append(" interrupts ").append(model.interrupts).append(model.waiting >= 0);
        int count = model.outputs.size();
        told.append(" outputs ").append(count);
        for (int i = 0; i < Math.min(200, count); i += 7) {
            told.append(' ').append(model.outputs.get(count - 1 - i));
        }
    }

    private static void figures(StringBuilder told, HotTranslator x) {
        told.append(" figures ").append(x.steps()).append(' ').append(x.made()).append(' ').append(x.blocks());
        told.append(" lookUps ").append(x.lookUps()).append(" chained ").append(x.chained());
        told.append(" long ").append(x.longBlocks()).append(" exits ").append(x.sideExits());
        told.append(" discarded ").append(x.discarded()).append(" skipped ").append(x.skipped());
        told.append(' ').append(x.isSound());
        told.append(' ').append(x.lookUps() == 0 ? 0f : x.chainShare());
        told.append(' ').append(x.made() == 0 ? 0.0 : x.meanLength());
    }

    private static void figures(StringBuilder told, Model m) {
        told.append(" figures ").append(m.steps).append(' ').append(m.made).append(' ').append(m.kept.size());
        told.append(" lookUps ").append(m.lookUps).append(" chained ").append(m.chained);
        told.append(" long ").append(m.longBlocks).append(" exits ").append(m.sideExits);
        told.append(" discarded ").append(m.discarded).append(" skipped ").append(m.skipped);
        told.append(' ').append(m.isSound());
        told.append(' ').append(m.lookUps == 0 ? 0f : (float) m.chained / (float) (m.chained + m.lookUps));
        told.append(' ').append(m.made == 0 ? 0.0 : (double) m.madeLength / (double) m.made);
    }

    private static void blocks(StringBuilder told, HotTranslator x) {
        for (int i = Math.max(0, x.made() - 40); i < x.made(); i++) {
            if (x.isKept(i)) {
                told.append("; ").append(i).append(" at ").append(x.startOf(i)).append(' ').append(x.lengthOf(i));
                told.append(' ').append(x.bytesOf(i)).append(" entries ").append(x.entries(i)).append(" links ");
                told.append(link(x, i, true)).append(' ').append(link(x, i, false)).append(" parts ").append(x.partsOf(i));
                told.append(' ').append(x.startOf(i) > 255 ? i : x.blockAt(x.startOf(i)));
            }
        }
    }

    private static String link(HotTranslator x, int block, boolean isTaken) {
        try {
            return Integer.toString(x.linkOf(block, isTaken));
        } catch (NoSuchElementException none) {
            return "-";
        }
    }

    private static void blocks(StringBuilder told, Model model) {
        for (Map.Entry<Integer, Model.Block> entry : model.kept.entrySet()) {
            Model.Block block = entry.getValue();
            if (block.number >= model.made - 40) {
                told.append("; ").append(entry.getKey()).append(" at ").append(block.start).append(' ').append(block.ops.size());
                told.append(' ').append(block.bytes).append(" entries ").append(block.entries).append(" links ");
                told.append(link(block, true)).append(' ').append(link(block, false)).append(" parts ").append(block.parts.size());
                told.append(' ').append(entry.getKey());
            }
        }
    }

    private static String link(Model.Block block, boolean isTaken) {
        Model.Block target = block.links.get(isTaken);
        return target == null ? "-" : Integer.toString(target.number);
    }
}
