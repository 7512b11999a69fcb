import java.util.Random;

/** Promises 1 to 38: long random runs, with the answers of PlainStack as those that are due. */
final class RandomRunsTest {
    private static final int NUMBERS = 8;

    private final Random random;
    private final boolean isCrowded;
    private CueStack stack = new CueStack();
    private PlainStack plain = new PlainStack();
    private final StringBuilder told = new StringBuilder();

    private RandomRunsTest(long seed) {
        random = new Random(seed);
        isCrowded = seed % 3 == 0;
    }

    public static void main(String[] args) throws IllegalAccessException {
        Checks.runAll(RandomRunsTest.class);
    }

    static void promise01To38RandomRuns() {
        for (long seed = 1; seed <= 240; seed++) {
            if (!new RandomRunsTest(seed).runs()) {
                return;
            }
        }
    }

    private boolean runs() {
        for (int call = 0; call < 250; call++) {
            if (!same(anyChange()) || !asks()) {
                return false;
            }
        }
        return true;
    }

    /** One call of both programs. */
    private interface Both {
        long of(CueStack stack);

        long ofPlain(PlainStack plain);
    }

    private abstract static class Named implements Both {
        final String name;

        Named(String name, Object... values) {
            StringBuilder text = new StringBuilder(name);
            for (Object value : values) {
                text.append(' ').append(value);
            }
            this.name = text.toString();
        }
    }

    private static String answer(Checks.Call call) {
        try {
            return Long.toString(call.answer());
        } catch (RuntimeException thrown) {
            return thrown.getClass().getSimpleName();
        }
    }

    private boolean same(Named call) {
        String got = answer(() -> call.of(stack));
        String want = answer(() -> call.ofPlain(plain));
        told.append(call.name).append(" -> ").append(got).append('\n');
        return same(call.name, got, want);
    }

    private boolean same(String name, String got, String want) {
        Checks.due(name + " (" + got + ", due is " + want + ")", got.equals(want), true);
        if (!got.equals(want)) {
            System.out.println(told);
        }
        return got.equals(want);
    }

    private int number() {
        return random.nextInt(25) == 0 ? random.nextInt(102) - 1 : 1 + random.nextInt(size());
    }

    private int size() {
        return isCrowded ? 14 : NUMBERS;
    }

    private int channel() {
        return random.nextInt(40) == 0 ? random.nextInt(20) - 4
            : random.nextInt(isCrowded ? 12 : 4);
    }

    private int level() {
        return random.nextInt(40) == 0 ? random.nextInt(110) - 5 : random.nextInt(5) * 25;
    }

    private int part() {
        return random.nextInt(40) == 0 ? random.nextInt(8) - 2 : random.nextInt(4);
    }

    private int tenths() {
        switch (random.nextInt(12)) {
            case 0: return random.nextInt(7000) - 100;
            case 1: return 600 + random.nextInt(2);
            case 2: return 6000 + random.nextInt(2);
            case 3: return -random.nextInt(3);
            default: return random.nextInt(30);
        }
    }

    private String entry() {
        switch (random.nextInt(8)) {
            case 0: return "c" + Math.abs(number()) + ";";
            case 1: return "x" + Math.abs(number()) + ";";
            case 2: return "s0" + random.nextInt(10) + "/" + Math.abs(channel()) + "@"
                + Math.abs(level()) + ";";
            case 3: return "r" + Math.abs(number()) + "/" + Math.abs(channel()) + ";";
            case 4: return "g;";
            case 5: return "j" + Math.abs(number()) + ";";
            case 6: return "t" + Math.abs(tenths()) + ";";
            default: return "t00" + random.nextInt(100) + ";";
        }
    }

    private String text() {
        StringBuilder text = new StringBuilder();
        int entries = random.nextInt(5);
        for (int entry = 0; entry < entries; entry++) {
            text.append(entry());
        }
        if (text.length() > 0 && random.nextInt(3) == 0) {
            int place = random.nextInt(text.length());
            text.setCharAt(place, "cxsrgjt/@;019 ~".charAt(random.nextInt(15)));
        }
        if (text.length() > 0 && random.nextInt(4) == 0) {
            text.setLength(random.nextInt(text.length()));
        }
        return text.toString();
    }

    private Named anyChange() {
        switch (random.nextInt(isCrowded ? 30 : 26)) {
            case 0: case 1: return addCue(number());
            case 2: return removeCue(number(), random.nextBoolean());
            case 3: return setFollow(number(), tenths());
            case 4: return setBlock(number(), random.nextBoolean());
            case 5: return setProtected(number(), random.nextInt(4) == 0);
            case 6: case 7: return setPart(number(), part(), random.nextBoolean(), tenths());
            case 8: return setHome(channel(), level());
            case 9: return unset(number(), channel(), random.nextBoolean());
            case 10: case 11:
                return release(number(), channel(), part(), random.nextBoolean());
            case 12: case 13: return go();
            case 14: return back();
            case 15: return jump(number());
            case 16: case 17: case 18: return pass(tenths());
            case 19: return read(text());
            case 20: return undo();
            case 21: return random.nextInt(3) == 0 ? savingOrClearing() : undo();
            default: return set(number(), channel(), level(), part(), random.nextBoolean());
        }
    }

    private Named savingOrClearing() {
        switch (random.nextInt(8)) {
            case 0: return clear();
            case 1: case 2: case 3: return restore();
            default: return save();
        }
    }

    private static Named addCue(int number) {
        return new Named("addCue", number) {
            public long of(CueStack s) { return s.addCue(number); }
            public long ofPlain(PlainStack p) { return p.addCue(number); }
        };
    }

    private static Named removeCue(int cue, boolean held) {
        return new Named("removeCue", cue, held) {
            public long of(CueStack s) { return s.removeCue(cue, held); }
            public long ofPlain(PlainStack p) { return p.removeCue(cue, held); }
        };
    }

    private static Named setFollow(int cue, int tenths) {
        return new Named("setFollow", cue, tenths) {
            public long of(CueStack s) { return s.setFollow(cue, tenths); }
            public long ofPlain(PlainStack p) { return p.setFollow(cue, tenths); }
        };
    }

    private static Named setBlock(int cue, boolean block) {
        return new Named("setBlock", cue, block) {
            public long of(CueStack s) { return s.setBlock(cue, block); }
            public long ofPlain(PlainStack p) { return p.setBlock(cue, block); }
        };
    }

    private static Named setProtected(int cue, boolean guarded) {
        return new Named("setProtected", cue, guarded) {
            public long of(CueStack s) { return s.setProtected(cue, guarded) ? 1 : 0; }
            public long ofPlain(PlainStack p) { return p.setProtected(cue, guarded) ? 1 : 0; }
        };
    }

    private static Named setPart(int cue, int part, boolean delay, int tenths) {
        return new Named("setPart", cue, part, delay, tenths) {
            public long of(CueStack s) { return s.setPart(cue, part, delay, tenths); }
            public long ofPlain(PlainStack p) { return p.setPart(cue, part, delay, tenths); }
        };
    }

    private static Named setHome(int channel, int level) {
        return new Named("setHome", channel, level) {
            public long of(CueStack s) { return s.setHome(channel, level); }
            public long ofPlain(PlainStack p) { return p.setHome(channel, level); }
        };
    }

    private static Named set(int cue, int channel, int level, int part, boolean held) {
        return new Named("set", cue, channel, level, part, held) {
            public long of(CueStack s) { return s.set(cue, channel, level, part, held); }
            public long ofPlain(PlainStack p) { return p.set(cue, channel, level, part, held); }
        };
    }

    private static Named release(int cue, int channel, int part, boolean held) {
        return new Named("release", cue, channel, part, held) {
            public long of(CueStack s) { return s.release(cue, channel, part, held); }
            public long ofPlain(PlainStack p) { return p.release(cue, channel, part, held); }
        };
    }

    private static Named unset(int cue, int channel, boolean held) {
        return new Named("unset", cue, channel, held) {
            public long of(CueStack s) { return s.unset(cue, channel, held); }
            public long ofPlain(PlainStack p) { return p.unset(cue, channel, held); }
        };
    }

    private static Named go() {
        return new Named("go") {
            public long of(CueStack s) { return s.go(); }
            public long ofPlain(PlainStack p) { return p.go(); }
        };
    }

    private static Named back() {
        return new Named("back") {
            public long of(CueStack s) { return s.back(); }
            public long ofPlain(PlainStack p) { return p.back(); }
        };
    }

    private static Named jump(int cue) {
        return new Named("jump", cue) {
            public long of(CueStack s) { return s.jump(cue); }
            public long ofPlain(PlainStack p) { return p.jump(cue); }
        };
    }

    private static Named pass(int tenths) {
        return new Named("pass", tenths) {
            public long of(CueStack s) { return s.pass(tenths); }
            public long ofPlain(PlainStack p) { return p.pass(tenths); }
        };
    }

    private static Named read(String text) {
        return new Named("read", text) {
            public long of(CueStack s) {
                Stacks.type(s, text);
                return s.read();
            }
            public long ofPlain(PlainStack p) {
                for (char sign : text.toCharArray()) {
                    p.append(sign);
                }
                return p.read();
            }
        };
    }

    private static Named undo() {
        return new Named("undo") {
            public long of(CueStack s) { return s.undo(); }
            public long ofPlain(PlainStack p) { return p.undo(); }
        };
    }

    private static Named clear() {
        return new Named("clear") {
            public long of(CueStack s) { return s.clear(); }
            public long ofPlain(PlainStack p) { return p.clear(); }
        };
    }

    private static Named save() {
        return new Named("save") {
            public long of(CueStack s) { return s.save(); }
            public long ofPlain(PlainStack p) { return p.save(); }
        };
    }

    private static Named restore() {
        return new Named("restore") {
            public long of(CueStack s) { return s.restore(); }
            public long ofPlain(PlainStack p) { return p.restore(); }
        };
    }

    private boolean asks() {
        return asksKept() && asksPlaying() && asksCues() && asksInstructions() && asksAnything();
    }

    private boolean asksKept() {
        return same("reason", answer(stack::reason), answer(plain::reason))
            && same("errorPosition", answer(stack::errorPosition), answer(plain::errorPosition));
    }

    private boolean asksPlaying() {
        boolean isSame = stack.meanLevel() == plain.meanLevel();
        for (int what = -1; what <= 11 && isSame; what++) {
            int asked = what;
            isSame = same("playing " + what, answer(() -> stack.playing(asked)),
                    answer(() -> plain.playing(asked)))
                && same("account " + what, answer(() -> stack.account(asked)),
                    answer(() -> plain.account(asked)))
                && same("now " + what, answer(() -> stack.now(asked)),
                    answer(() -> plain.now(asked)))
                && same("target " + what, answer(() -> stack.target(asked)),
                    answer(() -> plain.target(asked)));
        }
        return isSame;
    }

    private boolean asksCues() {
        int count = stack.account(0);
        boolean isSame = true;
        for (int index = 0; index <= count && isSame; index++) {
            int place = index;
            String cue = answer(() -> stack.cueAt(place));
            isSame = same("cueAt " + index, cue, answer(() -> plain.cueAt(place)));
            if (isSame && index < count) {
                isSame = asksCue(Integer.parseInt(cue));
            }
        }
        return isSame;
    }

    private boolean asksCue(int cue) {
        boolean isSame = same("sum " + cue, answer(() -> stack.sum(cue)),
                answer(() -> plain.sum(cue)))
            && same("chain " + cue, answer(() -> stack.chain(cue)),
                answer(() -> plain.chain(cue)));
        for (int index = 0; index < 12 && isSame; index++) {
            int at = index;
            isSame = same("cue " + cue + " " + at, answer(() -> stack.cue(cue, at)),
                    answer(() -> plain.cue(cue, at)))
                && same("part " + cue + " " + at, answer(() -> stack.part(cue, at % 5, at < 5)),
                    answer(() -> plain.part(cue, at % 5, at < 5)))
                && same("level " + cue + " " + at, answer(() -> stack.level(cue, at)),
                    answer(() -> plain.level(cue, at)))
                && same("levelAgain " + cue + " " + at, answer(() -> stack.levelAgain(cue, at)),
                    answer(() -> plain.level(cue, at)))
                && same("source " + cue + " " + at, answer(() -> stack.source(cue, at)),
                    answer(() -> plain.source(cue, at)))
                && same("apart " + cue + " " + at, answer(() -> stack.apart(cue, at)),
                    answer(() -> plain.apart(cue, at)));
        }
        return isSame;
    }

    private boolean asksInstructions() {
        boolean isSame = true;
        int count = stack.account(1);
        for (int index = 0; index <= count && isSame; index++) {
            int at = index;
            for (int what = 0; what <= 4 && isSame; what++) {
                int asked = what;
                isSame = same("instruction " + index + " " + what,
                    answer(() -> stack.instruction(at, asked)),
                    answer(() -> plain.instruction(at, asked)));
            }
        }
        return isSame;
    }

    /** Questions about what may not be there. */
    private boolean asksAnything() {
        int cue = number();
        int channel = random.nextInt(16) - 2;
        int part = random.nextInt(7) - 1;
        return same("level", answer(() -> stack.level(cue, channel)),
                answer(() -> plain.level(cue, channel)))
            && same("levelAgain", answer(() -> stack.levelAgain(cue, channel)),
                answer(() -> plain.level(cue, channel)))
            && same("source", answer(() -> stack.source(cue, channel)),
                answer(() -> plain.source(cue, channel)))
            && same("part", answer(() -> stack.part(cue, part, true)),
                answer(() -> plain.part(cue, part, true)))
            && same("cue", answer(() -> stack.cue(cue, part)), answer(() -> plain.cue(cue, part)))
            && same("chain", answer(() -> stack.chain(cue)), answer(() -> plain.chain(cue)))
            && same("sum", answer(() -> stack.sum(cue)), answer(() -> plain.sum(cue)))
            && same("apart", answer(() -> stack.apart(1, cue)), answer(() -> plain.apart(1, cue)));
    }
}
