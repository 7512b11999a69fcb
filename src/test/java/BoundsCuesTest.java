/** The boundaries that promises 1 to 11 name. */
final class BoundsCuesTest {
    public static void main(String[] args) throws IllegalAccessException {
        Checks.runAll(BoundsCuesTest.class);
    }

    private static final int[] ANY = {Integer.MIN_VALUE, -1, 0, 1, 50, 99, 100, Integer.MAX_VALUE};

    // ---- Promise 1

    @Says(promise = 1, value = "Creates a stack without cues.")
    static void newStacksHaveNoCues() {
        CueStack stack = new CueStack();
        Checks.due("cues", stack.account(0), 0);
        for (int index : ANY) {
            Bounds.dueThrow(stack, "cueAt", Bounds.NONE, () -> stack.cueAt(index));
            Bounds.dueThrow(stack, "instruction", Bounds.NONE, () -> stack.instruction(index, 0));
        }
        Bounds.dueThrow(stack, "reason", Bounds.NONE, stack::reason);
        Bounds.dueThrow(stack, "errorPosition", Bounds.NONE, stack::errorPosition);
        Bounds.dueThrow(stack, "undo", Bounds.NONE, stack::undo);
        Bounds.dueThrow(stack, "restore", Bounds.STATE, stack::restore);
        Checks.due("input", stack.append('g'), 1);
        Checks.due("stacks have nothing in common", Stacks.allCues().account(0)
            + new CueStack().account(0), 12);
    }

    // ---- Promise 2

    @Says(promise = 2, value = "Makes everything as in a new object")
    static void clearMakesAllNew() {
        String due = Questions.answers(new CueStack());
        CueStack empty = new CueStack();
        empty.clear();
        Checks.due("an empty one", Questions.answers(empty).equals(due), true);
        CueStack busy = Stacks.busy();
        busy.clear();
        Checks.due("a busy one", Questions.answers(busy).equals(due), true);
        Checks.dueThrow("undo", Bounds.NONE, busy::undo);
        CueStack full = Stacks.full();
        full.clear();
        Checks.due("a full one", Questions.answers(full).equals(due), true);
        CueStack end = Stacks.atTheEndOfTime(1);
        end.clear();
        Checks.due("time", end.pass(6000), 0);
        Checks.due("like a new one", Bounds.allOf(rebuilt(busy)).equals(
            Bounds.allOf(rebuilt(new CueStack()))), true);
    }

    private static CueStack rebuilt(CueStack stack) {
        stack.addCue(10);
        stack.addCue(20);
        stack.addCue(30);
        stack.addCue(40);
        stack.release(20, 2, 0, true);
        stack.go();
        stack.pass(3);
        return stack;
    }

    @Says(promise = 2,
        value = "apart from the reason, the input, the error position and what was saved")
    static void clearLeavesTheRest() {
        CueStack stack = Stacks.busy();
        stack.save();
        Bounds.dueRefused(stack, "unset", 3, () -> stack.unset(10, 11, true));
        Bounds.dueError(stack, "t1;z", 3);
        Stacks.type(stack, "c7");
        stack.clear();
        stack.clear();
        Checks.due("reason", stack.reason(), 3);
        Checks.due("errorPosition", stack.errorPosition(), 3);
        Checks.due("input", stack.append(';'), 3);
        Checks.due("read", stack.read(), 1);
        Checks.due("cue", stack.cueAt(0), 7);
        Checks.due("saved", stack.restore(), 4);
        Checks.due("level", stack.level(20, 0), 20);
    }

    @Says(promise = 2, value = "Returns the number of cues that there were.")
    static void clearTellsTheCues() {
        Checks.due("none", new CueStack().clear(), 0);
        CueStack stack = Stacks.allCues();
        Checks.due("12", stack.clear(), 12);
        Checks.due("none", stack.clear(), 0);
        stack.addCue(99);
        Checks.due("1", stack.clear(), 1);
    }

    // ---- Promise 3

    @Says(promise = 3, value = "Returns the number of cues.")
    static void addCueTellsTheCues() {
        CueStack stack = new CueStack();
        for (int count = 1; count <= 12; count++) {
            Checks.due("addCue", stack.addCue(100 - count), count);
        }
    }

    @Says(promise = 3,
        value = "Throws `IllegalArgumentException` if the number is out of range or used")
    static void addCueOutOfRangeOrUsed() {
        CueStack stack = Stacks.withCues(1, 50, 99);
        for (int number : Bounds.outside(1, 99)) {
            Bounds.dueThrow(stack, "addCue " + number, Bounds.BAD, () -> stack.addCue(number));
        }
        for (int number : new int[] {1, 50, 99}) {
            Bounds.dueThrow(stack, "addCue " + number, Bounds.BAD, () -> stack.addCue(number));
        }
        stack.removeCue(50, false);
        Checks.due("no more used", stack.addCue(50), 3);
        stack.undo();
        Checks.due("no more used", stack.addCue(50), 3);
    }

    @Says(promise = 3, value = "Throws `IllegalStateException` if there are 12 cues")
    static void addCueAt12() {
        CueStack stack = Stacks.withCues(1, 2, 3, 4, 5, 6, 7, 8, 9, 10, 11);
        Checks.due("the 12th", stack.addCue(99), 12);
        Bounds.dueThrow(stack, "addCue", Bounds.STATE, () -> stack.addCue(12));
        Bounds.dueThrow(stack, "addCue", Bounds.STATE, () -> stack.addCue(98));
        stack.undo();
        Checks.due("the 12th", stack.addCue(98), 12);
        stack.save();
        stack.clear();
        stack.addCue(50);
        stack.restore();
        Bounds.dueThrow(stack, "addCue", Bounds.STATE, () -> stack.addCue(50));
    }

    // ---- Promise 4

    @Says(promise = 4, value = "Removes a cue with its instructions.")
    static void removeCueTakesItsInstructions() {
        CueStack stack = Stacks.full();
        stack.removeCue(3, false);
        Checks.due("instructions", stack.account(1), 48);
        for (int index = 0; index < 48; index++) {
            int cue = index / 12 + 1;
            Bounds.dueInstruction(stack, index, cue < 3 ? cue : cue + 1, index % 12);
        }
        stack.removeCue(1, false);
        stack.removeCue(5, false);
        Checks.due("instructions", stack.account(1), 24);
        stack.removeCue(7, true);
        stack.removeCue(6, true);
        stack.removeCue(4, true);
        stack.removeCue(2, true);
        Checks.due("no cue", stack.account(0), 0);
        Checks.due("no instruction", stack.account(1), 0);
    }

    @Says(promise = 4, value = "Returns how many instructions it had.")
    static void removeCueTellsItsInstructions() {
        CueStack stack = Stacks.full();
        Checks.due("none", stack.removeCue(7, false), 0);
        Checks.due("12", stack.removeCue(5, true), 12);
        Checks.due("those that held", stack.removeCue(6, true), 12);
        stack.unset(4, 0, false);
        Checks.due("11", stack.removeCue(4, false), 11);
    }

    @Says(promise = 4, value = "Throws `IndexOutOfBoundsException` if there is no such cue")
    static void removeCueOfNone() {
        Bounds.dueNoSuchCue("removeCue", (stack, cue) -> stack.removeCue(cue, false));
        Bounds.dueNoSuchCue("removeCue held", (stack, cue) -> stack.removeCue(cue, true));
    }

    @Says(promise = 4,
        value = "Throws `UnsupportedOperationException` if it is refused; the reason is then kept")
    static void removeCueRefused() {
        CueStack stack = Stacks.full();
        stack.setBlock(6, true);
        Bounds.dueRefused(stack, "no room for 12", 2, () -> stack.removeCue(6, true));
        stack.setProtected(7, true);
        Bounds.dueRefused(stack, "the next one", 1, () -> stack.removeCue(6, true));
        stack.setProtected(6, true);
        Bounds.dueRefused(stack, "protected", 1, () -> stack.removeCue(6, false));
        Checks.due("beside a block", stack.removeCue(5, true), 12);
        stack.setProtected(6, false);
        Checks.due("not held", stack.removeCue(6, false), 0);
    }

    // ---- Promise 5

    @Says(promise = 5, value = "`index`: its index in the order of the cues, from 0")
    static void cueAtIsFrom0() {
        CueStack stack = Stacks.allCues();
        Checks.due("first", stack.cueAt(0), 1);
        Checks.due("last", stack.cueAt(11), 12);
        stack.removeCue(1, false);
        stack.addCue(99);
        Checks.due("first", stack.cueAt(0), 2);
        Checks.due("last", stack.cueAt(11), 99);
    }

    @Says(promise = 5, value = "Throws `NoSuchElementException` if there is no such index")
    static void cueAtNoIndex() {
        for (int count = 0; count <= 12; count++) {
            CueStack stack = new CueStack();
            for (int number = 1; number <= count; number++) {
                stack.addCue(number);
            }
            for (int index : Bounds.outside(0, count - 1)) {
                Bounds.dueThrow(stack, "cueAt " + index + " of " + count, Bounds.NONE,
                    () -> stack.cueAt(index));
            }
        }
        CueStack fewer = Stacks.allCues();
        fewer.removeCue(1, false);
        Bounds.dueThrow(fewer, "cueAt 11", Bounds.NONE, () -> fewer.cueAt(11));
        fewer.clear();
        Bounds.dueThrow(fewer, "cueAt 0", Bounds.NONE, () -> fewer.cueAt(0));
    }

    // ---- Promise 6

    @Says(promise = 6, value = "`tenths`: the follow time, or -1 for none")
    static void setFollowTakesNone() {
        CueStack stack = Stacks.withCues(1, 2);
        stack.setFollow(1, 1);
        stack.go();
        stack.setFollow(1, -1);
        Checks.due("none", stack.cue(1, 1), -1);
        Checks.due("no follow", stack.pass(6000), 0);
        Checks.due("it will not", stack.playing(4), -1);
        Checks.due("no chain", stack.chain(1), 0);
    }

    @Says(promise = 6, value = "Returns the previous follow time, or -1.")
    static void setFollowTellsThePreviousOne() {
        CueStack stack = Stacks.withCues(1);
        Checks.due("none", stack.setFollow(1, -1), -1);
        Checks.due("none", stack.setFollow(1, 1), -1);
        Checks.due("least", stack.setFollow(1, 6000), 1);
        Checks.due("most", stack.setFollow(1, -1), 6000);
        Checks.due("none", stack.setFollow(1, -1), -1);
    }

    @Says(promise = 6, value = "Throws `IndexOutOfBoundsException` if there is no such cue")
    static void setFollowOfNone() {
        Bounds.dueNoSuchCue("setFollow", (stack, cue) -> stack.setFollow(cue, 1));
        Bounds.dueNoSuchCue("setFollow to 0", (stack, cue) -> stack.setFollow(cue, 0));
    }

    @Says(promise = 6,
        value = "Throws `IllegalArgumentException` if tenths is neither -1 nor a follow time")
    static void setFollowWrong() {
        CueStack stack = Stacks.withCues(1);
        stack.setFollow(1, 77);
        for (int tenths : Bounds.outside(-1, 6000)) {
            Bounds.dueThrow(stack, "setFollow " + tenths, Bounds.BAD,
                () -> stack.setFollow(1, tenths));
        }
        Bounds.dueThrow(stack, "setFollow 0", Bounds.BAD, () -> stack.setFollow(1, 0));
    }

    // ---- Promise 7

    @Says(promise = 7, value = "Returns how many channels have another level in this cue by that.")
    static void setBlockTellsTheChannels() {
        CueStack stack = Stacks.withCues(1, 2, 3);
        Checks.due("none", stack.setBlock(2, true), 0);
        Checks.due("none", stack.setBlock(2, false), 0);
        for (int channel = 0; channel < 12; channel++) {
            stack.set(1, channel, 50, 0, false);
        }
        Checks.due("all", stack.setBlock(2, true), 12);
        Checks.due("none by the same", stack.setBlock(2, true), 0);
        Checks.due("none behind a block", stack.setBlock(3, true), 0);
        Checks.due("all", stack.setBlock(2, false), 12);
        Checks.due("none by the same", stack.setBlock(2, false), 0);
        Checks.due("none in the first one", stack.setBlock(1, true), 0);
        Checks.due("none in the first one", stack.setBlock(1, false), 0);
        stack.setHome(0, 50);
        stack.set(2, 1, 60, 0, false);
        stack.release(2, 2, 0, false);
        Checks.due("without home and instructions", stack.setBlock(2, true), 9);
    }

    @Says(promise = 7, value = "Throws `IndexOutOfBoundsException` if there is no such cue")
    static void setBlockOfNone() {
        Bounds.dueNoSuchCue("setBlock", (stack, cue) -> stack.setBlock(cue, true));
        Bounds.dueNoSuchCue("setBlock back", (stack, cue) -> stack.setBlock(cue, false));
    }

    // ---- Promise 8

    @Says(promise = 8, value = "Returns whether it was.")
    static void setProtectedTellsWhetherItWas() {
        CueStack stack = Stacks.withCues(1, 2);
        Checks.due("not at first", stack.setProtected(1, false), false);
        Checks.due("not yet", stack.setProtected(1, true), false);
        Checks.due("again", stack.setProtected(1, true), true);
        Checks.due("it was", stack.setProtected(1, false), true);
        Checks.due("no more", stack.setProtected(1, false), false);
        Checks.due("another", stack.setProtected(2, false), false);
    }

    @Says(promise = 8, value = "Throws `IndexOutOfBoundsException` if there is no such cue")
    static void setProtectedOfNone() {
        Bounds.dueNoSuchCue("setProtected", (stack, cue) -> stack.setProtected(cue, true) ? 1 : 0);
        Bounds.dueNoSuchCue("setProtected back",
            (stack, cue) -> stack.setProtected(cue, false) ? 1 : 0);
    }

    // ---- Promise 9

    @Says(promise = 9, value = "Returns the previous ones.")
    static void setPartTellsThePreviousOnes() {
        CueStack stack = Stacks.withCues(1);
        for (int part = 0; part < 4; part++) {
            Checks.due("first", stack.setPart(1, part, true, 600), 0);
            Checks.due("first", stack.setPart(1, part, false, 599), 0);
            Checks.due("again", stack.setPart(1, part, true, 600), 600);
            Checks.due("again", stack.setPart(1, part, false, 0), 599);
            Checks.due("then", stack.setPart(1, part, true, 0), 600);
            Checks.due("then", stack.setPart(1, part, false, 0), 0);
        }
    }

    @Says(promise = 9, value = "Throws `IndexOutOfBoundsException` if there is no such cue or part")
    static void setPartOfNone() {
        Bounds.dueNoSuchCue("setPart", (stack, cue) -> stack.setPart(cue, 0, true, 0));
        Bounds.dueNoSuchCue("setPart too long", (stack, cue) -> stack.setPart(cue, 3, false, 601));
        Bounds.dueFromZero("delay", 3, Bounds.NO_INDEX,
            (stack, part) -> stack.setPart(10, part, true, 600));
        Bounds.dueFromZero("time", 3, Bounds.NO_INDEX,
            (stack, part) -> stack.setPart(40, part, false, 0));
    }

    @Says(promise = 9,
        value = "Throws `IllegalArgumentException` if the tenths are out of range")
    static void setPartOutOfRange() {
        Bounds.dueFromZero("delay", 600, Bounds.BAD,
            (stack, tenths) -> stack.setPart(10, 0, true, tenths));
        Bounds.dueFromZero("time", 600, Bounds.BAD,
            (stack, tenths) -> stack.setPart(40, 3, false, tenths));
    }

    // ---- Promise 10

    @Says(promise = 10, value = "0 for its index")
    static void cue0IsItsIndex() {
        CueStack stack = Stacks.allCues();
        for (int number = 1; number <= 12; number++) {
            Checks.due("index", stack.cue(number, 0), number - 1);
        }
        stack.removeCue(1, false);
        stack.addCue(99);
        Checks.due("first", stack.cue(2, 0), 0);
        Checks.due("last", stack.cue(99, 0), 11);
        Checks.due("the only one", Stacks.withCues(99).cue(99, 0), 0);
    }

    @Says(promise = 10, value = "1 for its follow time or -1")
    static void cue1IsItsFollowTime() {
        CueStack stack = Stacks.withCues(1);
        Checks.due("none", stack.cue(1, 1), -1);
        stack.setFollow(1, 1);
        Checks.due("least", stack.cue(1, 1), 1);
        stack.setFollow(1, 6000);
        Checks.due("most", stack.cue(1, 1), 6000);
        stack.setFollow(1, -1);
        Checks.due("none", stack.cue(1, 1), -1);
    }

    @Says(promise = 10, value = "2 for 1 if it is a block, otherwise 0, 3 for 1 if it is "
        + "protected, otherwise 0")
    static void cue2And3AreBlockAndProtected() {
        CueStack stack = Stacks.withCues(1, 2);
        stack.setBlock(1, true);
        stack.setProtected(2, true);
        Checks.due("block", stack.cue(1, 2), 1);
        Checks.due("protected", stack.cue(1, 3), 0);
        Checks.due("block", stack.cue(2, 2), 0);
        Checks.due("protected", stack.cue(2, 3), 1);
        stack.setBlock(1, false);
        stack.setProtected(2, false);
        Checks.due("block", stack.cue(1, 2), 0);
        Checks.due("protected", stack.cue(2, 3), 0);
    }

    @Says(promise = 10, value = "4 for the number of its instructions")
    static void cue4IsTheNumberOfItsInstructions() {
        CueStack stack = Stacks.full();
        Checks.due("all", stack.cue(1, 4), 12);
        Checks.due("all", stack.cue(5, 4), 12);
        Checks.due("none", stack.cue(6, 4), 0);
        stack.unset(5, 0, true);
        Checks.due("one goes", stack.cue(5, 4), 11);
        Checks.due("one comes", stack.cue(6, 4), 1);
        stack.release(5, 1, 0, false);
        Checks.due("a release counts", stack.cue(5, 4), 11);
    }

    @Says(promise = 10, value = "5 for the set of channels that move in it")
    static void cue5IsTheSetOfMovingChannels() {
        CueStack stack = Stacks.full();
        Checks.due("all", stack.cue(1, 5), 4095);
        Checks.due("all", stack.cue(5, 5), 4095);
        Checks.due("none", stack.cue(6, 5), 0);
        stack.set(5, 0, 4, 0, false);
        stack.set(5, 11, 4, 0, false);
        Checks.due("without the first and the last", stack.cue(5, 5), 2046);
        stack.setBlock(7, true);
        Checks.due("all by the block", stack.cue(7, 5), 4095);
    }

    @Says(promise = 10, value = "6 for its length: the greatest delay plus time, over the channels "
        + "that move in it, of the part of the instruction for the channel, or part 0; 0 if none "
        + "moves")
    static void cue6IsItsLength() {
        CueStack stack = Stacks.withCues(1, 2, 3);
        for (int part = 0; part < 4; part++) {
            stack.setPart(2, part, true, 600);
            stack.setPart(2, part, false, 600 - part);
            stack.setPart(3, part, false, part + 1);
        }
        Checks.due("none moves", stack.cue(2, 6), 0);
        stack.set(2, 11, 1, 3, false);
        Checks.due("one moves", stack.cue(2, 6), 1197);
        stack.set(2, 0, 1, 1, false);
        Checks.due("the greatest", stack.cue(2, 6), 1199);
        stack.set(2, 5, 0, 0, false);
        Checks.due("it does not move", stack.cue(2, 6), 1199);
        stack.set(2, 5, 1, 0, false);
        Checks.due("the greatest of all", stack.cue(2, 6), 1200);
        Checks.due("none moves by tracking", stack.cue(3, 6), 0);
        stack.setBlock(3, true);
        Checks.due("part 0", stack.cue(3, 6), 1);
        stack.release(3, 0, 3, false);
        Checks.due("the part of the release", stack.cue(3, 6), 4);
        stack.setPart(3, 3, false, 0);
        Checks.due("another is the greatest", stack.cue(3, 6), 1);
    }

    @Says(promise = 10, value = "Throws `IndexOutOfBoundsException` if there is no such cue")
    static void cueOfNone() {
        for (int what = -1; what <= 7; what++) {
            int asked = what;
            Bounds.dueNoSuchCue("cue " + what, (stack, cue) -> stack.cue(cue, asked));
        }
    }

    @Says(promise = 10, value = "Throws `IllegalArgumentException` if what is not 0 to 6")
    static void cueOfWhatNot() {
        Bounds.dueFromZero("cue", 6, Bounds.BAD, (stack, what) -> stack.cue(10, what));
    }

    // ---- Promise 11

    @Says(promise = 11, value = "Returns the tenths.")
    static void partTellsTheTenths() {
        CueStack stack = Stacks.withCues(1, 99);
        for (int part = 0; part < 4; part++) {
            Checks.due("delay at first", stack.part(99, part, true), 0);
            Checks.due("time at first", stack.part(99, part, false), 0);
            stack.setPart(99, part, true, 600);
            stack.setPart(99, part, false, 600 - part);
        }
        for (int part = 0; part < 4; part++) {
            Checks.due("most", stack.part(99, part, true), 600);
            Checks.due("its own", stack.part(99, part, false), 600 - part);
            Checks.due("of another", stack.part(1, part, true), 0);
        }
    }

    @Says(promise = 11,
        value = "Throws `IndexOutOfBoundsException` if there is no such cue or part")
    static void partOfNone() {
        Bounds.dueNoSuchCue("delay", (stack, cue) -> stack.part(cue, 0, true));
        Bounds.dueNoSuchCue("time", (stack, cue) -> stack.part(cue, 4, false));
        Bounds.dueFromZero("delay", 3, Bounds.NO_INDEX,
            (stack, part) -> stack.part(10, part, true));
        Bounds.dueFromZero("time", 3, Bounds.NO_INDEX,
            (stack, part) -> stack.part(40, part, false));
    }
}
