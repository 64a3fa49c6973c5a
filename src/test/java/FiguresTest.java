/** Promises 37 to 41: the figures. */
public final class FiguresTest {
    private static final Class<IllegalArgumentException> ARGUMENT = IllegalArgumentException.class;
    private static final Class<IllegalStateException> STATE = IllegalStateException.class;
    private static final Check CHECK = new Check("FiguresTest");

    public static void main(String[] args) {
        steps();
        sameBy();
        sameByChangesNothing();
        chainShares();
        meanLengths();
        soundness();
        CHECK.end();
    }

    private static void steps() {
        HotTranslator x = Code.with(Code.add(0, 1), Code.ALWAYS, Code.far(-3));
        for (int i = 0; i < 20; i++) {
            x.setTier(i % 3);
            x.run(500);
        }
        CHECK.due("steps", x.steps(), 10000L);
        x.poke(0, 255);
        x.goTo(0);
        x.run(5);
        CHECK.due("a fault is no step", x.steps(), 10000L);
    }

    private static void sameBy() {
        HotTranslator x = Code.with(Code.add(0, 1), Code.FILL, Code.ALWAYS, Code.far(-4));
        Code.registers(x, 1, 200, 9, 100);
        for (int tier = 0; tier <= 2; tier++) {
            CHECK.due("same by " + tier + " behind 1", x.isSameBy(tier, 1), true);
            CHECK.due("same by " + tier + " behind 200", x.isSameBy(tier, 200), true);
        }
        CHECK.dueThrow("tier -1", ARGUMENT, () -> x.isSameBy(-1, 1));
        CHECK.dueThrow("tier 3", ARGUMENT, () -> x.isSameBy(3, 1));
        CHECK.dueThrow("steps 0", ARGUMENT, () -> x.isSameBy(1, 0));
        CHECK.dueThrow("steps 201", ARGUMENT, () -> x.isSameBy(1, 201));
        x.goTo(50);
        x.run(1);
        CHECK.dueThrow("halted", STATE, () -> x.isSameBy(1, 1));
        CHECK.dueThrow("halted and steps 0", ARGUMENT, () -> x.isSameBy(1, 0));
        x.poke(50, 255);
        x.goTo(50);
        x.run(1);
        CHECK.dueThrow("at a fault", STATE, () -> x.isSameBy(1, 1));
    }

    private static void sameByChangesNothing() {
        HotTranslator x = Code.with(Code.add(0, 1), Code.add(0, 1), Code.out(0), Code.store(0, 2), 200, Code.ALWAYS, Code.far(-7));
        Code.put(x, 100, Code.HALT);
        x.setTier(2);
        x.setHot(2);
        Code.registers(x, 0, 3, 0, 120);
        x.run(18);
        x.interrupt(100);
        String before = Told.all(x);
        for (int tier = 0; tier <= 2; tier++) {
            CHECK.due("same with an interrupt", x.isSameBy(tier, 20), true);
            CHECK.due("nothing changes by isSameBy " + tier, Told.all(x), before);
        }
        x.run(9);
        CHECK.due("the interrupt is still taken", x.place() + " " + x.interrupts(), "101 1");
    }

    private static void chainShares() {
        HotTranslator x = Code.with(Code.ALWAYS, Code.far(-2));
        CHECK.dueThrow("no share", ArithmeticException.class, x::chainShare);
        x.run(1);
        CHECK.due("share of none", x.chainShare(), 0f);
        x.run(3);
        CHECK.due("lookUps and chained", x.lookUps() + " " + x.chained(), "3 1");
        CHECK.due("share of a quarter", x.chainShare(), 0.25f);
        x.run(4);
        CHECK.due("share", x.chainShare(), 4f / 8f);
        x.run(2);
        CHECK.due("lookUps and chained later", x.lookUps() + " " + x.chained(), "5 5");
        x.run(2);
        x.run(2);
        x.flush();
        CHECK.due("share behind a flush", x.chainShare(), 7f / 14f);
        x.run(3);
        CHECK.due("share as a float", x.chainShare(), 8f / 17f);
    }

    private static void meanLengths() {
        HotTranslator x = Code.with(16, 16, 16, Code.ALWAYS, 20);
        CHECK.dueThrow("no mean length", ArithmeticException.class, x::meanLength);
        x.run(1);
        CHECK.due("length of one", x.meanLength(), 4.0);
        x.run(1);
        CHECK.due("length of two", x.meanLength(), 3.5);
        x.flush();
        CHECK.due("length behind a flush", x.meanLength(), 3.5);
        x.poke(25, 255);
        x.run(9);
        CHECK.due("length with a fault", x.meanLength(), 10.0 / 4.0);
        x.goTo(25);
        x.run(9);
        CHECK.due("length of no new one", x.meanLength(), 2.5);
        x.flush();
        x.goTo(0);
        x.run(9);
        x.goTo(1);
        x.run(1);
        CHECK.due("length as a double", x.meanLength(), 18.0 / 7.0);
    }

    private static void soundness() {
        HotTranslator x = Code.with(Code.store(0, 1), 0, Code.add(1, 2), Code.ALWAYS, Code.far(-5));
        x.setTier(2);
        x.setHot(2);
        Code.registers(x, 16, 10, 1, 0);
        for (int i = 0; i < 60; i++) {
            x.setTier(i % 3);
            x.run(50);
            CHECK.due("sound " + i, x.isSound(), true);
            if (x.state() != 'r') {
                x.setRegister(1, 7 * i % 250);
                Code.put(x, 0, Code.store(0, 1), 0, Code.add(1, 2), Code.ALWAYS, Code.far(-5));
                x.goTo(0);
            }
            x.setCache(1 + i % 12);
            CHECK.due("sound behind setCache " + i, x.isSound(), true);
        }
    }
}
