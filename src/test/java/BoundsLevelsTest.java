/** The boundaries that promises 12 to 22 name. */
final class BoundsLevelsTest {
    public static void main(String[] args) throws IllegalAccessException {
        Checks.runAll(BoundsLevelsTest.class);
    }

    // ---- Promise 12

    @Says(promise = 12, value = "Returns the previous home level.")
    static void setHomeTellsThePreviousOne() {
        CueStack stack = new CueStack();
        for (int channel = 0; channel < 12; channel++) {
            Checks.due("at first", stack.setHome(channel, 100), 0);
            Checks.due("most", stack.setHome(channel, channel), 100);
        }
        for (int channel = 0; channel < 12; channel++) {
            Checks.due("its own", stack.setHome(channel, 0), channel);
            Checks.due("least", stack.setHome(channel, 0), 0);
        }
    }

    @Says(promise = 12, value = "Throws `IndexOutOfBoundsException` if there is no such channel")
    static void setHomeOfNone() {
        Bounds.dueFromZero("setHome", 11, Bounds.NO_INDEX,
            (stack, channel) -> stack.setHome(channel, 100));
        CueStack stack = Stacks.busy();
        for (int channel : Bounds.outside(0, 11)) {
            Bounds.dueThrow(stack, "ahead of the level", Bounds.NO_INDEX,
                () -> stack.setHome(channel, 101));
        }
    }

    @Says(promise = 12, value = "Throws `IllegalArgumentException` if the level is out of range")
    static void setHomeOutOfRange() {
        Bounds.dueFromZero("first channel", 100, Bounds.BAD,
            (stack, level) -> stack.setHome(0, level));
        Bounds.dueFromZero("last channel", 100, Bounds.BAD,
            (stack, level) -> stack.setHome(11, level));
    }

    // ---- Promise 13

    @Says(promise = 13,
        value = "Returns in how many cues the level of the channel is changed by that.")
    static void setTellsTheCues() {
        CueStack stack = Stacks.allCues();
        Checks.due("none", stack.set(1, 0, 0, 0, false), 0);
        Checks.due("all 12", stack.set(1, 0, 1, 0, false), 12);
        Checks.due("the last one", stack.set(12, 0, 2, 0, false), 1);
        Checks.due("all but the last", stack.set(1, 0, 100, 0, false), 11);
        Checks.due("held", stack.set(1, 0, 99, 0, true), 1);
        Checks.due("one by another one", stack.set(1, 0, 98, 0, true), 1);
        stack.setBlock(4, true);
        Checks.due("up to the block", stack.set(2, 0, 50, 0, false), 2);
        Checks.due("in the block", stack.set(4, 0, 0, 0, false), 0);
        Checks.due("behind it", stack.set(4, 0, 1, 0, false), 8);
    }

    @Says(promise = 13, value = "Throws `IndexOutOfBoundsException` if there is no such cue, "
        + "channel or part")
    static void setOfNone() {
        Bounds.dueNoSuchCue("set", (stack, cue) -> stack.set(cue, 0, 0, 0, false));
        Bounds.dueNoSuchCue("set too high", (stack, cue) -> stack.set(cue, 12, 101, 4, true));
        Bounds.dueFromZero("set of channel", 11, Bounds.NO_INDEX,
            (stack, channel) -> stack.set(10, channel, 100, 0, false));
        Bounds.dueFromZero("set of part", 3, Bounds.NO_INDEX,
            (stack, part) -> stack.set(40, 11, 0, part, true));
    }

    @Says(promise = 13, value = "Throws `IllegalArgumentException` if the level is out of range")
    static void setOutOfRange() {
        Bounds.dueFromZero("set", 100, Bounds.BAD,
            (stack, level) -> stack.set(10, 0, level, 0, false));
        Bounds.dueFromZero("set held", 100, Bounds.BAD,
            (stack, level) -> stack.set(40, 11, level, 3, true));
        CueStack stack = Stacks.full();
        stack.setProtected(6, true);
        Bounds.dueThrow(stack, "ahead of a refusal", Bounds.BAD,
            () -> stack.set(6, 0, 101, 0, false));
        Bounds.dueThrow(stack, "ahead of a refusal", Bounds.BAD,
            () -> stack.set(7, 0, -1, 0, false));
    }

    @Says(promise = 13,
        value = "Throws `UnsupportedOperationException` if it is refused; the reason is then kept")
    static void setRefused() {
        CueStack stack = Stacks.full();
        Bounds.dueRefused(stack, "a 61st", 2, () -> stack.set(6, 0, 0, 0, false));
        Bounds.dueRefused(stack, "a 61st", 2, () -> stack.set(7, 11, 100, 3, true));
        Bounds.dueRefused(stack, "a 61st holds", 2, () -> stack.set(5, 0, 0, 0, true));
        stack.unset(5, 11, false);
        Bounds.dueRefused(stack, "a 61st holds", 2, () -> stack.set(6, 0, 0, 0, true));
        Checks.due("the 60th", stack.set(6, 0, 0, 0, false), 2);
        stack.setProtected(1, true);
        Bounds.dueRefused(stack, "protected", 1, () -> stack.set(1, 0, 1, 0, false));
        stack.setProtected(7, true);
        Bounds.dueRefused(stack, "the next one", 1, () -> stack.set(6, 0, 1, 0, true));
        Checks.due("not held", stack.set(6, 0, 1, 0, false), 2);
    }

    // ---- Promise 14

    @Says(promise = 14,
        value = "Returns in how many cues the level of the channel is changed by that.")
    static void releaseTellsTheCues() {
        CueStack stack = Stacks.allCues();
        Checks.due("none", stack.release(1, 0, 0, false), 0);
        stack.set(1, 0, 50, 0, false);
        Checks.due("the last one", stack.release(12, 0, 3, false), 1);
        Checks.due("held", stack.release(2, 0, 0, true), 1);
        Checks.due("the first one", stack.release(1, 0, 0, true), 1);
        Checks.due("up to the next one", stack.release(3, 0, 0, false), 9);
        stack.set(1, 1, 100, 0, false);
        Checks.due("all 12", stack.release(1, 1, 0, false), 12);
        Checks.due("none", stack.release(1, 1, 0, true), 0);
        stack.setHome(2, 100);
        stack.set(1, 2, 100, 0, false);
        Checks.due("home is that level", stack.release(1, 2, 0, false), 0);
    }

    @Says(promise = 14, value = "Throws `IndexOutOfBoundsException` if there is no such cue, "
        + "channel or part")
    static void releaseOfNone() {
        Bounds.dueNoSuchCue("release", (stack, cue) -> stack.release(cue, 0, 0, false));
        Bounds.dueNoSuchCue("release held", (stack, cue) -> stack.release(cue, 11, 3, true));
        Bounds.dueFromZero("release of channel", 11, Bounds.NO_INDEX,
            (stack, channel) -> stack.release(10, channel, 0, false));
        Bounds.dueFromZero("release of part", 3, Bounds.NO_INDEX,
            (stack, part) -> stack.release(40, 11, part, true));
        CueStack stack = Stacks.full();
        stack.setProtected(1, true);
        Bounds.dueThrow(stack, "ahead of a refusal", Bounds.NO_INDEX,
            () -> stack.release(1, 0, 4, false));
        Bounds.dueThrow(stack, "ahead of a refusal", Bounds.NO_INDEX,
            () -> stack.release(7, 12, 0, false));
    }

    @Says(promise = 14,
        value = "Throws `UnsupportedOperationException` if it is refused; the reason is then kept")
    static void releaseRefused() {
        CueStack stack = Stacks.full();
        Bounds.dueRefused(stack, "a 61st", 2, () -> stack.release(6, 0, 0, false));
        Bounds.dueRefused(stack, "a 61st", 2, () -> stack.release(7, 11, 3, true));
        Bounds.dueRefused(stack, "a 61st holds", 2, () -> stack.release(5, 0, 0, true));
        stack.unset(5, 11, false);
        Bounds.dueRefused(stack, "a 61st holds", 2, () -> stack.release(6, 0, 0, true));
        Checks.due("the 60th", stack.release(6, 0, 0, false), 2);
        stack.setProtected(1, true);
        Bounds.dueRefused(stack, "protected", 1, () -> stack.release(1, 0, 0, false));
        stack.setProtected(7, true);
        stack.set(6, 0, 5, 0, false);
        Bounds.dueRefused(stack, "the next one", 1, () -> stack.release(6, 0, 0, true));
        Checks.due("not held", stack.release(6, 0, 0, false), 2);
    }

    // ---- Promise 15

    @Says(promise = 15,
        value = "Returns in how many cues the level of the channel is changed by that.")
    static void unsetTellsTheCues() {
        CueStack stack = Stacks.allCues();
        stack.set(1, 0, 50, 0, false);
        stack.set(12, 0, 60, 0, false);
        Checks.due("the last one", stack.unset(12, 0, true), 1);
        Checks.due("all 12", stack.unset(1, 0, false), 12);
        stack.set(1, 0, 50, 0, false);
        Checks.due("held", stack.unset(1, 0, true), 1);
        Checks.due("in the second", stack.unset(2, 0, false), 11);
        stack.set(5, 0, 0, 0, false);
        Checks.due("none", stack.unset(5, 0, false), 0);
        stack.release(6, 0, 0, false);
        Checks.due("none", stack.unset(6, 0, true), 0);
        stack.set(7, 0, 1, 0, false);
        stack.setBlock(9, true);
        Checks.due("up to the block", stack.unset(7, 0, false), 2);
        Checks.due("instructions", stack.account(1), 0);
    }

    @Says(promise = 15,
        value = "Throws `IndexOutOfBoundsException` if there is no such cue or channel")
    static void unsetOfNone() {
        Bounds.dueNoSuchCue("unset", (stack, cue) -> stack.unset(cue, 0, false));
        Bounds.dueNoSuchCue("unset held", (stack, cue) -> stack.unset(cue, 11, true));
        Bounds.dueFromZero("unset of channel", 11, Bounds.NO_INDEX, (stack, channel) -> {
            if (channel >= 0 && channel < 12) {
                stack.set(10, channel, 1, 0, false);
            }
            return stack.unset(10, channel, true);
        });
        CueStack stack = Stacks.full();
        stack.setProtected(1, true);
        Bounds.dueThrow(stack, "ahead of a refusal", Bounds.NO_INDEX,
            () -> stack.unset(1, 12, false));
        Bounds.dueThrow(stack, "ahead of a refusal", Bounds.NO_INDEX,
            () -> stack.unset(7, -1, false));
    }

    @Says(promise = 15,
        value = "Throws `UnsupportedOperationException` if it is refused; the reason is then kept")
    static void unsetRefused() {
        CueStack stack = Stacks.full();
        Bounds.dueRefused(stack, "none there at 60", 3, () -> stack.unset(7, 0, false));
        Bounds.dueRefused(stack, "none there at 60", 3, () -> stack.unset(6, 0, true));
        stack.setProtected(7, true);
        Checks.due("the one behind the next", stack.unset(5, 0, true), 1);
        Bounds.dueRefused(stack, "none there now", 3, () -> stack.unset(5, 0, true));
        Bounds.dueRefused(stack, "the next one", 1, () -> stack.unset(6, 0, true));
        Checks.due("not held", stack.unset(6, 0, false), 2);
        Bounds.dueRefused(stack, "1 ahead of 3", 1, () -> stack.unset(7, 0, false));
        stack.setProtected(1, true);
        Bounds.dueRefused(stack, "protected", 1, () -> stack.unset(1, 0, false));
    }

    // ---- Promise 16

    @Says(promise = 16, value = "`index`: its index in the list, from 0")
    static void instructionIsFrom0() {
        CueStack stack = Stacks.full();
        Bounds.dueInstruction(stack, 0, 1, 0, 1, 0);
        Bounds.dueInstruction(stack, 11, 1, 11, 1, 0);
        Bounds.dueInstruction(stack, 12, 2, 0, 2, 0);
        Bounds.dueInstruction(stack, 59, 5, 11, 5, 0);
        stack.unset(1, 0, false);
        Bounds.dueInstruction(stack, 0, 1, 1, 1, 0);
        Bounds.dueInstruction(stack, 58, 5, 11, 5, 0);
    }

    @Says(promise = 16, value = "0 for its cue, 1 for its channel, 2 for its level, or -1 for a "
        + "release, 3 for its part")
    static void instructionTellsItsNumbers() {
        CueStack stack = Stacks.withCues(1, 99);
        stack.set(99, 11, 100, 3, false);
        stack.set(1, 0, 0, 0, false);
        stack.release(99, 0, 3, false);
        stack.setHome(0, 50);
        Bounds.dueList(stack, new int[] {99, 11, 100, 3}, new int[] {1, 0, 0, 0},
            new int[] {99, 0, -1, 3});
    }

    @Says(promise = 16, value = "Throws `NoSuchElementException` if there is no such index")
    static void instructionNoIndex() {
        CueStack stack = Stacks.full();
        for (int index : Bounds.outside(0, 59)) {
            Bounds.dueThrow(stack, "of 60: " + index, Bounds.NONE,
                () -> stack.instruction(index, 0));
            Bounds.dueThrow(stack, "of 60: " + index, Bounds.NONE,
                () -> stack.instruction(index, 4));
        }
        stack.unset(1, 5, false);
        Bounds.dueThrow(stack, "of 59", Bounds.NONE, () -> stack.instruction(59, 3));
        stack.clear();
        Bounds.dueThrow(stack, "of none", Bounds.NONE, () -> stack.instruction(0, 0));
        stack.addCue(1);
        Bounds.dueThrow(stack, "of none", Bounds.NONE, () -> stack.instruction(0, -1));
    }

    @Says(promise = 16, value = "Throws `IllegalArgumentException` if what is not 0 to 3")
    static void instructionOfWhatNot() {
        Bounds.dueFromZero("first", 3, Bounds.BAD, (stack, what) -> stack.instruction(0, what));
        Bounds.dueFromZero("last", 3, Bounds.BAD, (stack, what) -> stack.instruction(3, what));
    }

    // ---- Promise 17

    @Says(promise = 17,
        value = "Throws `IndexOutOfBoundsException` if there is no such cue or channel")
    static void levelOfNone() {
        Bounds.dueNoSuchCue("level", (stack, cue) -> stack.level(cue, 0));
        Bounds.dueNoSuchCue("level", (stack, cue) -> stack.level(cue, 12));
        Bounds.dueFromZero("level of channel", 11, Bounds.NO_INDEX,
            (stack, channel) -> stack.level(10, channel));
        Bounds.dueFromZero("level of channel", 11, Bounds.NO_INDEX,
            (stack, channel) -> stack.level(40, channel));
    }

    // ---- Promise 18

    @Says(promise = 18,
        value = "Returns the same by a second way: from the first cue on, cue by cue.")
    static void levelAgainIsTheSame() {
        CueStack stack = Stacks.full();
        for (int number = 8; number <= 12; number++) {
            stack.addCue(number);
        }
        stack.setHome(0, 100);
        stack.release(1, 0, 0, false);
        stack.release(5, 11, 0, false);
        stack.setBlock(3, true);
        stack.setBlock(9, true);
        for (int cue = 1; cue <= 12; cue++) {
            for (int channel = 0; channel < 12; channel++) {
                Checks.due("levelAgain", stack.levelAgain(cue, channel),
                    stack.level(cue, channel));
            }
        }
        Bounds.dueLevels(stack, 0, 100, 2, 3, 4, 5, 5, 5, 5, 100, 100, 100, 100);
        Bounds.dueLevels(stack, 11, 1, 2, 3, 4, 0, 0, 0, 0, 0, 0, 0, 0);
        Bounds.dueLevels(stack, 5, 1, 2, 3, 4, 5, 5, 5, 5, 0, 0, 0, 0);
    }

    @Says(promise = 18,
        value = "Throws `IndexOutOfBoundsException` if there is no such cue or channel")
    static void levelAgainOfNone() {
        Bounds.dueNoSuchCue("levelAgain", (stack, cue) -> stack.levelAgain(cue, 0));
        Bounds.dueNoSuchCue("levelAgain", (stack, cue) -> stack.levelAgain(cue, -1));
        Bounds.dueFromZero("levelAgain of channel", 11, Bounds.NO_INDEX,
            (stack, channel) -> stack.levelAgain(10, channel));
        Bounds.dueFromZero("levelAgain of channel", 11, Bounds.NO_INDEX,
            (stack, channel) -> stack.levelAgain(40, channel));
    }

    // ---- Promise 19

    @Says(promise = 19,
        value = "Throws `IndexOutOfBoundsException` if there is no such cue or channel")
    static void sourceOfNone() {
        Bounds.dueNoSuchCue("source", (stack, cue) -> stack.source(cue, 0));
        Bounds.dueNoSuchCue("source", (stack, cue) -> stack.source(cue, 12));
        Bounds.dueFromZero("source of channel", 11, Bounds.NO_INDEX,
            (stack, channel) -> stack.source(10, channel));
        Bounds.dueFromZero("source of channel", 11, Bounds.NO_INDEX,
            (stack, channel) -> stack.source(40, channel));
    }

    // ---- Promise 20

    @Says(promise = 20, value = "Returns the sum of the levels of all channels in a cue.")
    static void sumIsOfAllChannels() {
        CueStack stack = Stacks.withCues(1, 2);
        Checks.due("least", stack.sum(2), 0);
        for (int channel = 0; channel < 12; channel++) {
            stack.setHome(channel, 100);
        }
        Checks.due("most", stack.sum(1), 1200);
        stack.set(2, 0, 0, 0, false);
        stack.set(2, 11, 0, 0, false);
        Checks.due("without the first and the last", stack.sum(2), 1000);
        Checks.due("of the cue before", stack.sum(1), 1200);
    }

    @Says(promise = 20, value = "Throws `IndexOutOfBoundsException` if there is no such cue")
    static void sumOfNone() {
        Bounds.dueNoSuchCue("sum", CueStack::sum);
    }

    // ---- Promise 21

    @Says(promise = 21, value = "Returns how many channels have different levels in two cues.")
    static void apartIsOfAllChannels() {
        CueStack stack = Stacks.full();
        Checks.due("all", stack.apart(1, 5), 12);
        Checks.due("backwards", stack.apart(5, 1), 12);
        Checks.due("none by tracking", stack.apart(5, 7), 0);
        Checks.due("none with itself", stack.apart(5, 5), 0);
        stack.set(5, 0, 1, 0, false);
        stack.set(5, 11, 1, 0, false);
        Checks.due("without the first and the last", stack.apart(1, 5), 10);
        stack.set(5, 5, 2, 0, false);
        Checks.due("by 1", stack.apart(1, 5), 10);
    }

    @Says(promise = 21,
        value = "Throws `IndexOutOfBoundsException` if one of the cues does not exist")
    static void apartOfNone() {
        Bounds.dueNoSuchCue("apart", (stack, cue) -> stack.apart(cue, 1));
        Bounds.dueNoSuchCue("apart", (stack, cue) -> stack.apart(1, cue));
        Bounds.dueNoSuchCue("apart", (stack, cue) -> stack.apart(cue, cue));
    }

    // ---- Promise 22

    @Says(promise = 22, value = "Returns the reason that was kept last.")
    static void reasonIsTheLastOne() {
        CueStack stack = Stacks.withCues(1);
        Bounds.dueRefused(stack, "back", 5, stack::back);
        Bounds.dueRefused(stack, "unset", 3, () -> stack.unset(1, 0, false));
        Bounds.dueThrow(stack, "no refusal", Bounds.NO_INDEX, () -> stack.unset(2, 0, false));
        stack.set(1, 0, 1, 0, false);
        stack.save();
        stack.undo();
        stack.restore();
        stack.clear();
        Checks.due("it stays", stack.reason(), 3);
        Bounds.dueRefused(stack, "go", 4, stack::go);
        Bounds.dueNotDone(stack, "c1;x2;");
        Checks.due("no refusal in a text", stack.reason(), 4);
        stack.addCue(1);
        stack.setProtected(1, true);
        Bounds.dueNotDone(stack, "g;x1;", 1);
        Checks.due("it stays when asked", stack.reason(), 1);
    }

    @Says(promise = 22, value = "Returns the reason, 1 to 5.")
    static void reasonsAre1To5() {
        CueStack stack = Stacks.full();
        Bounds.dueRefused(stack, "5", 5, stack::back);
        stack.jump(7);
        Bounds.dueRefused(stack, "4", 4, stack::go);
        Bounds.dueRefused(stack, "3", 3, () -> stack.unset(6, 0, false));
        Bounds.dueRefused(stack, "2", 2, () -> stack.set(6, 0, 1, 0, false));
        stack.setProtected(6, true);
        Bounds.dueRefused(stack, "1", 1, () -> stack.set(6, 0, 1, 0, false));
    }

    @Says(promise = 22, value = "Throws `NoSuchElementException` if none was kept")
    static void reasonOfNone() {
        CueStack stack = new CueStack();
        Bounds.dueThrow(stack, "at first", Bounds.NONE, stack::reason);
        stack.addCue(1);
        Bounds.dueThrow(stack, "no refusal", Bounds.BAD, () -> stack.addCue(1));
        Bounds.dueThrow(stack, "no refusal", Bounds.NO_INDEX, () -> stack.jump(2));
        Bounds.dueThrow(stack, "no refusal", Bounds.BAD, () -> stack.set(1, 0, 101, 0, true));
        Bounds.dueNotDone(stack, "c1;");
        Bounds.dueError(stack, "c", 1);
        stack.undo();
        stack.clear();
        Bounds.dueThrow(stack, "none yet", Bounds.NONE, stack::reason);
    }
}
