import java.util.ArrayList;
import java.util.HashMap;
import java.util.List;
import java.util.Map;
import java.util.TreeMap;

/**
 * The document told a second time, in another way than the class: one loop over single instructions, with
 * blocks as objects that point at each other. Runs of random calls compare both.
 */
final class Model {
    static final class Block {
        int number;
        int start;
        int bytes;
        int entries;
        final List<Integer> ops = new ArrayList<>();
        final Map<Boolean, Block> links = new HashMap<>();
        Boolean lastWay;
        final List<Boolean> ways = new ArrayList<>();
        List<Block> parts = new ArrayList<>();
    }

    final int[] memory = new int[256];
    final int[] registers = new int[4];
    boolean z;
    boolean s;
    boolean c;
    int place;
    char state = 'r';
    char fault;
    boolean jumped;
    int waiting = -1;
    int interrupts;
    final List<Integer> outputs = new ArrayList<>();
    long steps;

    int tier = 1;
    int cache = 8;
    int hot = 4;
    final TreeMap<Integer, Block> kept = new TreeMap<>();
    int made;
    int madeLength;
    int lookUps;
    int chained;
    int longBlocks;
    int sideExits;
    int discarded;
    int skipped;

    /** What the random runs came by, so that they can be seen to come by all of it. */
    final TreeMap<String, Integer> seen;

    private Block running;
    private int index;
    private Block behind;
    private Boolean way;
    private List<Block> longOne;
    private int part;
    private boolean endedByLast;

    Model(TreeMap<String, Integer> seen) {
        this.seen = seen;
    }

    private void see(String what) {
        seen.merge(what, 1, Integer::sum);
    }

    void throwAway(Block gone) {
        kept.remove(gone.number);
        discarded++;
        for (Block other : kept.values()) {
            other.links.values().removeIf(target -> target == gone);
            if (other.parts.contains(gone)) {
                other.parts = new ArrayList<>();
            }
        }
        if (longOne != null && longOne.contains(gone)) {
            see(running == gone ? "long block goes with its running part" : "long block goes by another part");
            longOne = null;
        }
        if (running == gone) {
            running = null;
        }
    }

    void write(int address, int value) {
        memory[address] = value % 256;
        for (Block block : new ArrayList<>(kept.values())) {
            if (block.start <= address && address < block.start + block.bytes) {
                throwAway(block);
            }
        }
    }

    void shrink(int most) {
        while (kept.size() > most) {
            throwAway(kept.firstEntry().getValue());
        }
    }

    /** The number of bytes of an instruction, 0 for none. */
    static int bytesOf(int first) {
        int n = first % 16;
        int b = first % 4;
        switch (first / 16) {
            case 0: case 11: case 13: return n == 0 ? 1 : 0;
            case 2: return b == 0 ? 3 : 0;
            case 7: case 8: return 2;
            case 9: return n < 7 ? 2 : 0;
            case 10: return n == 0 ? 2 : 0;
            case 14: return b == 0 ? 1 : 0;
            case 15: return 0;
            default: return 1;
        }
    }

    private char codeFault(int at) {
        if (at > 255) {
            return 'x';
        }
        int bytes = bytesOf(memory[at]);
        return bytes == 0 ? 'i' : at + bytes > 256 ? 'x' : '-';
    }

    private Block scan(int start) {
        Block block = new Block();
        block.start = start;
        int at = start;
        while (block.ops.size() < 8 && at / 64 == start / 64) {
            char code = codeFault(at);
            if (code != '-') {
                block.ops.add(-1);
                at = code == 'i' ? at + 1 : Math.max(at, 256);
                break;
            }
            int op = memory[at] / 16;
            block.ops.add(op);
            at += bytesOf(memory[at]);
            if (op == 0 || op >= 9 && op <= 11) {
                break;
            }
        }
        block.bytes = at - start;
        return block;
    }

    boolean isUnseen(Block block, int at, int stepsLeft) {
        if (block.ops.get(at) < 3 || block.ops.get(at) > 6) {
            return false;
        }
        for (int i = at + 1; i < block.ops.size(); i++) {
            int op = block.ops.get(i);
            if (op >= 3 && op <= 6) {
                return stepsLeft > i - at;
            }
            if (op != 1 && op != 2 && op != 14) {
                return false;
            }
        }
        return false;
    }

    private boolean takesInterrupt() {
        if (!jumped || waiting < 0) {
            return false;
        }
        int top = (registers[3] + 65534) % 65536;
        if (top > 254) {
            see("interrupt that cannot be written");
            return false;
        }
        registers[3] = top;
        int word = place;
        place = waiting;
        waiting = -1;
        jumped = false;
        interrupts++;
        write(top, word % 256);
        write(top + 1, word / 256);
        return true;
    }

    private void enter() {
        boolean wasLong = longOne != null;
        boolean isInterrupted = takesInterrupt();
        if (wasLong && isInterrupted && longOne == null) {
            see("long block goes by the word of an interrupt");
        }
        boolean isGuarded = longOne != null && endedByLast && part + 1 < longOne.size();
        Block expected = isGuarded ? longOne.get(part + 1) : null;
        Block from = isInterrupted || !endedByLast || behind == null || !kept.containsValue(behind) ? null : behind;
        Block linked = from == null || way == null ? null : from.links.get(way);
        if (isGuarded) {
            if (linked != null && linked == expected) {
                part++;
                running = linked;
                linked.entries++;
                see("guard passed");
                return;
            }
            sideExits++;
            see(isInterrupted ? "side exit by interrupt" : linked == null ? "side exit by look-up" : "side exit by link");
        }
        longOne = null;
        Block next = linked;
        if (next != null) {
            chained++;
            see("link followed");
        } else {
            next = lookUp();
        }
        if (from != null && way != null && kept.containsValue(from)) {
            from.links.put(way, next);
            from.lastWay = way;
            from.ways.remove(way);
            from.ways.add(way);
        } else if (from != null && way != null) {
            see("left block thrown away by making one");
        }
        next.entries++;
        running = next;
        if (tier == 2) {
            startLong(next);
        }
    }

    private Block lookUp() {
        lookUps++;
        for (Block block : kept.values()) {
            if (block.start == place) {
                return block;
            }
        }
        shrink(cache - 1);
        Block block = scan(place);
        block.number = made++;
        madeLength += block.ops.size();
        kept.put(block.number, block);
        return block;
    }

    private void startLong(Block head) {
        if (head.parts.isEmpty() && head.entries >= hot) {
            List<Block> parts = new ArrayList<>();
            Block at = head;
            while (at != null && !parts.contains(at) && parts.size() < 4) {
                parts.add(at);
                Block next = null;
                for (Boolean candidate : at.ways) {
                    if (at.links.containsKey(candidate)) {
                        next = at.links.get(candidate);
                    }
                }
                at = next;
            }
            if (parts.size() > 1) {
                head.parts = parts;
                longBlocks++;
                see("long block of " + parts.size());
            }
        }
        if (!head.parts.isEmpty()) {
            longOne = head.parts;
            part = 0;
        }
    }

    int run(int limit) {
        running = null;
        behind = null;
        longOne = null;
        endedByLast = false;
        int done = 0;
        while (done < limit && state == 'r') {
            boolean isLeaving = false;
            if (tier == 0) {
                takesInterrupt();
            } else if (running == null) {
                enter();
                index = 0;
            }
            Block block = running;
            boolean isSkipping = tier != 0 && isUnseen(block, index, limit - done);
            int before = place;
            int first = place < 256 ? memory[place] : -1;
            if (!instruction(isSkipping)) {
                state = 'f';
                break;
            }
            done++;
            steps++;
            if (isSkipping) {
                skipped++;
            }
            boolean isStanding = first == 208 && place == before && registers[2] != 0;
            if (tier != 0 && running == null) {
                behind = null;
                endedByLast = false;
                see("block that threw itself away");
                isLeaving = true;
            }
            if (tier != 0 && !isLeaving && !isStanding) {
                index++;
                if (index == block.ops.size()) {
                    running = null;
                    behind = block;
                    endedByLast = true;
                    way = first == 176 ? null : Boolean.valueOf(jumped);
                }
            }
        }
        running = null;
        longOne = null;
        return done;
    }

    private int word(int address) {
        return memory[address] + 256 * memory[address + 1];
    }

    /** Does what the place says, or notes its fault. */
    private boolean instruction(boolean isSkipping) {
        char code = codeFault(place);
        if (code != '-') {
            fault = code;
            return false;
        }
        int first = memory[place];
        int op = first / 16;
        int a = first / 4 % 4;
        int b = first % 4;
        int next = place + bytesOf(first);
        int second = place < 255 ? memory[place + 1] : 0;
        boolean isJump = false;
        if (op == 0) {
            state = 'h';
        } else if (op == 1) {
            registers[a] = registers[b];
        } else if (op == 2) {
            registers[a] = word(place + 1);
        } else if (op >= 3 && op <= 6) {
            int left = registers[a];
            int right = registers[b];
            int result = (op == 3 ? left + right : op == 6 ? left & right : left - right + 65536) % 65536;
            if (!isSkipping) {
                z = result == 0;
                s = result > 32767;
                c = op == 3 ? left + right > 65535 : op != 6 && left < right;
            }
            if (op != 5) {
                registers[a] = result;
            }
        } else if (op == 7 || op == 8) {
            int address = (registers[b] + second) % 65536;
            if (address > 254) {
                fault = 'm';
                return false;
            }
            if (op == 7) {
                registers[a] = word(address);
            } else {
                write(address, registers[a] % 256);
                write(address + 1, registers[a] / 256);
            }
        } else if (op == 9) {
            boolean[] holds = {true, z, !z, c, !c, s, !s};
            isJump = holds[first % 16];
        } else if (op == 10) {
            int top = (registers[3] + 65534) % 65536;
            if (top > 254) {
                fault = 'm';
                return false;
            }
            registers[3] = top;
            write(top, next % 256);
            write(top + 1, next / 256);
            isJump = true;
        } else if (op == 11) {
            if (registers[3] > 254) {
                fault = 'm';
                return false;
            }
            place = word(registers[3]);
            registers[3] += 2;
            jumped = true;
            return true;
        } else if (op == 12) {
            if (registers[b] == 0) {
                fault = 'd';
                return false;
            }
            registers[a] /= registers[b];
        } else if (op == 13 && registers[2] != 0) {
            if (registers[1] > 255) {
                fault = 'm';
                return false;
            }
            write(registers[1], registers[0]);
            registers[1]++;
            registers[2]--;
            if (registers[2] != 0) {
                next = place;
            }
        } else if (op == 14) {
            outputs.add(registers[a]);
        }
        place = isJump ? (next + (second > 127 ? second - 256 : second) + 65536) % 65536 : next;
        jumped = isJump;
        return true;
    }

    boolean isSound() {
        for (Block block : kept.values()) {
            Block anew = scan(block.start);
            if (!anew.ops.equals(block.ops) || anew.bytes != block.bytes) {
                return false;
            }
        }
        return true;
    }
}
