import java.util.NoSuchElementException;

/** Promises 12 to 22: instructions, levels and reasons. */
final class LevelsTest {
    private static final Class<IndexOutOfBoundsException> NO_INDEX = IndexOutOfBoundsException.class;
    private static final Class<IllegalArgumentException> BAD = IllegalArgumentException.class;
    private static final Class<UnsupportedOperationException> REFUSED =
        UnsupportedOperationException.class;
    private static final Class<NoSuchElementException> NONE = NoSuchElementException.class;

    public static void main(String[] args) throws IllegalAccessException {
        Checks.runAll(LevelsTest.class);
    }

    private static void dueInstruction(CueStack stack, int index, int cue, int channel, int level,
            int part) {
        Checks.due("cue of " + index, stack.instruction(index, 0), cue);
        Checks.due("channel of " + index, stack.instruction(index, 1), channel);
        Checks.due("level of " + index, stack.instruction(index, 2), level);
        Checks.due("part of " + index, stack.instruction(index, 3), part);
    }

    static void promise12SetHome() {
        CueStack stack = Stacks.withCues(1, 2);
        stack.set(1, 0, 30, 0, false);
        stack.release(2, 0, 0, false);
        Checks.due("setHome", stack.setHome(0, 100), 0);
        Checks.due("setHome", stack.setHome(0, 40), 100);
        Checks.due("setHome", stack.setHome(11, 60), 0);
        Checks.due("level", stack.level(1, 0), 30);
        Checks.due("released", stack.level(2, 0), 40);
        Checks.due("tracked home", stack.level(2, 11), 60);
        Checks.due("target", stack.target(11), 0);
        Checks.due("now", stack.now(11), 0);
        Checks.dueThrow("no such channel", NO_INDEX, () -> stack.setHome(12, 0));
        Checks.dueThrow("no channel comes first", NO_INDEX, () -> stack.setHome(-1, 101));
        Checks.dueThrow("101", BAD, () -> stack.setHome(0, 101));
        Checks.dueThrow("-1", BAD, () -> stack.setHome(0, -1));
        Checks.due("unchanged", stack.setHome(0, 0), 40);
    }

    static void promise13Set() {
        CueStack stack = Stacks.withCues(1, 2, 3, 4);
        Checks.due("tracks on", stack.set(1, 5, 50, 0, false), 4);
        Checks.due("tracks on", stack.set(3, 5, 70, 1, false), 2);
        Checks.due("up to the next", stack.set(1, 5, 60, 2, false), 2);
        Checks.due("the same level", stack.set(1, 5, 60, 3, false), 0);
        Checks.due("anew", stack.account(1), 2);
        dueInstruction(stack, 0, 1, 5, 60, 3);
        dueInstruction(stack, 1, 3, 5, 70, 1);
        stack.setBlock(4, true);
        Checks.due("up to the block", stack.set(3, 5, 71, 0, false), 1);
        Checks.due("100", stack.set(4, 0, 100, 3, false), 1);
        Checks.due("0", stack.set(4, 1, 0, 0, false), 0);
    }

    static void promise13SetWrong() {
        CueStack stack = Stacks.withCues(1, 2);
        Checks.dueThrow("no cue", NO_INDEX, () -> stack.set(3, 0, 0, 0, false));
        Checks.dueThrow("no cue first", NO_INDEX, () -> stack.set(3, 0, 101, 0, false));
        Checks.dueThrow("no channel", NO_INDEX, () -> stack.set(1, 12, 0, 0, false));
        Checks.dueThrow("no channel", NO_INDEX, () -> stack.set(1, -1, 0, 0, false));
        Checks.dueThrow("no part", NO_INDEX, () -> stack.set(1, 0, 0, 4, false));
        Checks.dueThrow("no part first", NO_INDEX, () -> stack.set(1, 0, -1, -1, false));
        Checks.dueThrow("level 101", BAD, () -> stack.set(1, 0, 101, 0, false));
        Checks.dueThrow("level -1", BAD, () -> stack.set(1, 0, -1, 0, false));
        stack.setProtected(1, true);
        Checks.dueThrow("level first", BAD, () -> stack.set(1, 0, 101, 0, false));
        Checks.dueThrow("no reason", NONE, stack::reason);
        Checks.dueThrow("protected", REFUSED, () -> stack.set(1, 0, 1, 0, false));
        Checks.due("reason", stack.reason(), 1);
        Checks.due("nothing came", stack.account(1), 0);
    }

    static void promise13SetHeld() {
        CueStack stack = Stacks.withCues(1, 2, 3);
        stack.set(1, 0, 30, 0, false);
        Checks.due("held", stack.set(1, 0, 40, 2, true), 1);
        Checks.due("level", stack.level(3, 0), 30);
        dueInstruction(stack, 0, 1, 0, 40, 2);
        dueInstruction(stack, 1, 2, 0, 30, 0);
        Checks.due("the next has one", stack.set(1, 0, 41, 2, true), 1);
        Checks.due("none came", stack.account(1), 2);
        Checks.due("no change, no hold", stack.set(2, 4, 0, 2, true), 0);
        Checks.due("only the one", stack.account(1), 3);
        Checks.due("the last one", stack.set(3, 9, 1, 2, true), 1);
        Checks.due("no next", stack.account(1), 4);
        stack.setBlock(3, true);
        Checks.due("the next is a block", stack.set(2, 6, 3, 2, true), 1);
        Checks.due("no hold", stack.account(1), 5);
    }

    static void promise13InTheLastCue() {
        CueStack stack = Stacks.withCues(1, 2, 3);
        stack.removeCue(3, false);
        Checks.due("a removed cue does not count", stack.set(1, 0, 1, 0, false), 2);
        Checks.due("no next", stack.set(2, 0, 2, 0, true), 1);
        Checks.due("none held", stack.account(1), 2);
        for (int number = 3; number <= 12; number++) {
            stack.addCue(number);
        }
        Checks.due("the last of 12", stack.set(12, 0, 3, 0, true), 1);
        Checks.due("all 12", stack.set(1, 1, 3, 0, false), 12);
        Checks.due("the last of 12", stack.unset(12, 0, true), 1);
        Checks.due("the last of 12", stack.removeCue(12, true), 0);
    }

    static void promise13HoldsALevelThatCameFromARelease() {
        CueStack stack = Stacks.withCues(1, 2, 3);
        stack.setHome(0, 25);
        stack.set(1, 0, 30, 0, false);
        stack.release(2, 0, 3, false);
        Checks.due("held", stack.set(2, 0, 99, 1, true), 1);
        dueInstruction(stack, 2, 3, 0, 25, 0);
    }

    static void promise13HeldAndProtected() {
        CueStack stack = Stacks.withCues(1, 2, 3);
        stack.setProtected(2, true);
        Checks.dueThrow("the next would get one", REFUSED, () -> stack.set(1, 0, 5, 0, true));
        Checks.due("reason", stack.reason(), 1);
        Checks.due("nothing came", stack.account(1), 0);
        Checks.due("not held", stack.set(1, 0, 5, 0, false), 3);
        Checks.due("no change", stack.set(1, 0, 5, 1, true), 0);
        stack.setBlock(2, true);
        Checks.due("a block gets none", stack.set(1, 0, 6, 0, true), 1);
    }

    static void promise13Full() {
        CueStack stack = Stacks.full();
        Checks.due("instructions", stack.account(1), 60);
        Checks.due("anew in its place", stack.set(1, 3, 77, 1, false), 1);
        dueInstruction(stack, 3, 1, 3, 77, 1);
        Checks.dueThrow("a new one", REFUSED, () -> stack.set(6, 0, 5, 0, false));
        Checks.due("reason", stack.reason(), 2);
        Checks.dueThrow("anew, but the next holds", REFUSED, () -> stack.set(5, 0, 9, 0, true));
        Checks.due("as before", stack.level(5, 0), 5);
        Checks.due("as before", stack.level(6, 0), 5);
        stack.setProtected(6, true);
        Checks.dueThrow("1 comes ahead of 2", REFUSED, () -> stack.set(5, 0, 9, 0, true));
        Checks.due("reason", stack.reason(), 1);
        Checks.dueThrow("1 comes ahead of 2", REFUSED, () -> stack.set(6, 0, 9, 0, true));
        Checks.due("reason", stack.reason(), 1);
        stack.setProtected(6, false);
        stack.unset(1, 11, false);
        Checks.dueThrow("room for one of two", REFUSED, () -> stack.set(6, 0, 9, 0, true));
        Checks.due("reason", stack.reason(), 2);
        stack.unset(1, 10, false);
        Checks.due("room for both", stack.set(6, 0, 9, 0, true), 1);
        Checks.due("instructions", stack.account(1), 60);
        dueInstruction(stack, 58, 6, 0, 9, 0);
        dueInstruction(stack, 59, 7, 0, 5, 0);
    }

    static void promise14Release() {
        CueStack stack = Stacks.withCues(1, 2, 3);
        stack.setHome(2, 15);
        stack.set(1, 2, 60, 0, false);
        Checks.due("release", stack.release(2, 2, 3, false), 2);
        Checks.due("level", stack.level(2, 2), 15);
        Checks.due("level", stack.level(3, 2), 15);
        dueInstruction(stack, 1, 2, 2, -1, 3);
        Checks.due("releases", stack.account(10), 1);
        Checks.due("in place of the level", stack.release(1, 2, 1, true), 1);
        dueInstruction(stack, 0, 1, 2, -1, 1);
        Checks.due("a level in place of it", stack.set(1, 2, 15, 0, true), 0);
        Checks.due("releases", stack.account(10), 1);
        Checks.due("nothing is changed", stack.release(3, 0, 0, true), 0);
        Checks.due("but it came", stack.cue(3, 4), 1);
    }

    static void promise14ReleaseHeld() {
        CueStack stack = Stacks.withCues(1, 2, 3);
        stack.set(1, 2, 60, 0, false);
        Checks.due("held", stack.release(1, 2, 0, true), 1);
        Checks.due("level", stack.level(3, 2), 60);
        dueInstruction(stack, 1, 2, 2, 60, 0);
        stack.setProtected(3, true);
        Checks.dueThrow("the next is protected", REFUSED, () -> stack.release(2, 2, 0, true));
        Checks.due("reason", stack.reason(), 1);
        stack.setHome(2, 60);
        Checks.due("no change by it", stack.release(2, 2, 0, true), 0);
    }

    static void promise14ReleaseWrong() {
        CueStack stack = Stacks.full();
        Checks.dueThrow("no cue", NO_INDEX, () -> stack.release(8, 0, 0, false));
        Checks.dueThrow("no channel", NO_INDEX, () -> stack.release(1, 12, 0, false));
        Checks.dueThrow("no part", NO_INDEX, () -> stack.release(1, 0, 4, false));
        Checks.dueThrow("no part", NO_INDEX, () -> stack.release(1, 0, -1, false));
        Checks.dueThrow("full", REFUSED, () -> stack.release(7, 0, 0, false));
        Checks.due("reason", stack.reason(), 2);
        Checks.dueThrow("full by the hold", REFUSED, () -> stack.release(5, 0, 0, true));
        Checks.due("anew", stack.release(5, 0, 0, false), 3);
        stack.setProtected(5, true);
        Checks.dueThrow("protected", REFUSED, () -> stack.release(5, 0, 0, false));
        Checks.due("reason", stack.reason(), 1);
    }

    static void promise15Unset() {
        CueStack stack = Stacks.withCues(1, 2, 3, 4);
        stack.set(1, 0, 10, 0, false);
        stack.set(2, 0, 20, 2, false);
        stack.set(2, 1, 21, 0, false);
        stack.set(4, 0, 40, 0, false);
        Checks.due("unset", stack.unset(2, 0, false), 2);
        Checks.due("level", stack.level(3, 0), 10);
        Checks.due("instructions", stack.account(1), 3);
        dueInstruction(stack, 1, 2, 1, 21, 0);
        dueInstruction(stack, 2, 4, 0, 40, 0);
        Checks.dueThrow("none there", REFUSED, () -> stack.unset(2, 0, false));
        Checks.due("reason", stack.reason(), 3);
        stack.set(2, 0, 10, 0, false);
        Checks.due("the same level", stack.unset(2, 0, false), 0);
        stack.set(2, 0, 11, 3, false);
        dueInstruction(stack, 3, 2, 0, 11, 3);
        stack.setBlock(2, true);
        Checks.due("in a block", stack.unset(2, 0, false), 2);
        Checks.due("level", stack.level(3, 0), 0);
        Checks.due("in the first", stack.unset(1, 0, false), 1);
        Checks.dueThrow("no cue", NO_INDEX, () -> stack.unset(5, 0, false));
        Checks.dueThrow("no channel", NO_INDEX, () -> stack.unset(1, 12, false));
        Checks.dueThrow("no channel", NO_INDEX, () -> stack.unset(1, -1, true));
    }

    static void promise15UnsetHeld() {
        CueStack stack = Stacks.full();
        Checks.due("goes and comes at 60", stack.unset(5, 7, true), 1);
        Checks.due("instructions", stack.account(1), 60);
        dueInstruction(stack, 59, 6, 7, 5, 0);
        Checks.due("the next has one", stack.unset(4, 0, true), 1);
        Checks.due("instructions", stack.account(1), 59);
        stack.set(4, 0, 3, 0, false);
        Checks.due("no change", stack.unset(4, 0, true), 0);
        stack.setProtected(6, true);
        Checks.dueThrow("the next is protected", REFUSED, () -> stack.unset(5, 0, true));
        Checks.due("reason", stack.reason(), 1);
        Checks.due("still there", stack.level(5, 0), 5);
        Checks.due("not held", stack.unset(5, 0, false), 3);
        Checks.dueThrow("none there", REFUSED, () -> stack.unset(5, 0, true));
        Checks.due("reason", stack.reason(), 3);
        Checks.dueThrow("1 comes ahead of 3", REFUSED, () -> stack.unset(6, 0, true));
        Checks.due("reason", stack.reason(), 1);
        Checks.due("its neighbour is not hindered", stack.unset(5, 1, false), 3);
    }

    static void promise16Instruction() {
        CueStack stack = Stacks.withCues(1, 2);
        Checks.dueThrow("none", NONE, () -> stack.instruction(0, 0));
        stack.set(2, 11, 100, 3, false);
        stack.release(1, 0, 2, false);
        stack.set(2, 0, 0, 1, false);
        dueInstruction(stack, 0, 2, 11, 100, 3);
        dueInstruction(stack, 1, 1, 0, -1, 2);
        dueInstruction(stack, 2, 2, 0, 0, 1);
        Checks.dueThrow("index 3", NONE, () -> stack.instruction(3, 0));
        Checks.dueThrow("index -1", NONE, () -> stack.instruction(-1, 4));
        Checks.dueThrow("no index comes first", NONE, () -> stack.instruction(3, 4));
        Checks.dueThrow("what 4", BAD, () -> stack.instruction(2, 4));
        Checks.dueThrow("what -1", BAD, () -> stack.instruction(0, -1));
        stack.set(2, 11, 50, 0, false);
        dueInstruction(stack, 0, 2, 11, 50, 0);
        stack.removeCue(2, false);
        dueInstruction(stack, 0, 1, 0, -1, 2);
        Checks.dueThrow("index 1", NONE, () -> stack.instruction(1, 0));
    }

    static void promise17Level() {
        CueStack stack = Stacks.withCues(1, 2, 3, 4, 5);
        stack.setHome(0, 9);
        dueLevels(stack, 0, 9, 9, 9, 9, 9);
        stack.set(2, 0, 20, 0, false);
        dueLevels(stack, 0, 9, 20, 20, 20, 20);
        stack.release(4, 0, 0, false);
        dueLevels(stack, 0, 9, 20, 20, 9, 9);
        stack.setBlock(3, true);
        dueLevels(stack, 0, 9, 20, 9, 9, 9);
        stack.set(3, 0, 0, 0, false);
        dueLevels(stack, 0, 9, 20, 0, 9, 9);
        stack.set(1, 0, 1, 0, false);
        dueLevels(stack, 0, 1, 20, 0, 9, 9);
        dueLevels(stack, 11, 0, 0, 0, 0, 0);
        Checks.dueThrow("no cue", NO_INDEX, () -> stack.level(6, 0));
        Checks.dueThrow("no channel", NO_INDEX, () -> stack.level(1, 12));
        Checks.dueThrow("no channel", NO_INDEX, () -> stack.level(1, -1));
    }

    private static void dueLevels(CueStack stack, int channel, int... levels) {
        for (int index = 0; index < levels.length; index++) {
            Checks.due("level", stack.level(index + 1, channel), levels[index]);
            Checks.due("levelAgain", stack.levelAgain(index + 1, channel), levels[index]);
        }
    }

    static void promise18LevelAgain() {
        CueStack stack = Stacks.withCues(3, 6);
        stack.set(3, 1, 44, 0, false);
        Checks.due("levelAgain", stack.levelAgain(6, 1), 44);
        stack.setBlock(6, true);
        stack.setHome(1, 2);
        Checks.due("levelAgain", stack.levelAgain(6, 1), 2);
        Checks.dueThrow("no cue", NO_INDEX, () -> stack.levelAgain(4, 0));
        Checks.dueThrow("no channel", NO_INDEX, () -> stack.levelAgain(3, 12));
        Checks.dueThrow("no channel", NO_INDEX, () -> stack.levelAgain(3, -1));
    }

    static void promise19Source() {
        CueStack stack = Stacks.withCues(11, 22, 33, 44);
        Checks.due("the first one", stack.source(44, 0), 11);
        Checks.due("itself", stack.source(11, 0), 11);
        stack.set(22, 0, 5, 0, false);
        Checks.due("itself", stack.source(22, 0), 22);
        Checks.due("an instruction", stack.source(44, 0), 22);
        Checks.due("another channel", stack.source(44, 1), 11);
        stack.setBlock(33, true);
        Checks.due("a block", stack.source(44, 0), 33);
        Checks.due("ahead of the block", stack.source(22, 1), 11);
        stack.release(44, 0, 0, false);
        Checks.due("a release", stack.source(44, 0), 44);
        Checks.due("not of the channel", stack.source(44, 2), 33);
        Checks.dueThrow("no cue", NO_INDEX, () -> stack.source(12, 0));
        Checks.dueThrow("no channel", NO_INDEX, () -> stack.source(11, 12));
        Checks.dueThrow("no channel", NO_INDEX, () -> stack.source(11, -1));
    }

    static void promise20Sum() {
        CueStack stack = Stacks.withCues(1, 2);
        for (int channel = 0; channel < 12; channel++) {
            stack.set(1, channel, 100, 0, false);
        }
        Checks.due("sum", stack.sum(2), 1200);
        stack.release(2, 11, 0, false);
        stack.set(2, 0, 1, 0, false);
        stack.setHome(11, 5);
        Checks.due("sum", stack.sum(2), 1006);
        Checks.due("sum", stack.sum(1), 1200);
        Checks.dueThrow("no cue", NO_INDEX, () -> stack.sum(3));
    }

    static void promise21Apart() {
        CueStack stack = Stacks.withCues(1, 2, 3);
        stack.set(2, 0, 1, 0, false);
        stack.set(2, 11, 1, 0, false);
        stack.set(3, 5, 1, 0, false);
        Checks.due("apart", stack.apart(1, 2), 2);
        Checks.due("apart", stack.apart(3, 1), 3);
        Checks.due("apart", stack.apart(2, 3), 1);
        Checks.due("apart", stack.apart(3, 3), 0);
        Checks.dueThrow("no cue", NO_INDEX, () -> stack.apart(4, 1));
        Checks.dueThrow("no cue", NO_INDEX, () -> stack.apart(1, 4));
    }

    static void promise22Reason() {
        CueStack stack = Stacks.withCues(1, 2);
        Checks.dueThrow("none", NONE, stack::reason);
        Checks.dueThrow("5", REFUSED, stack::back);
        Checks.due("reason", stack.reason(), 5);
        Checks.dueThrow("3", REFUSED, () -> stack.unset(1, 0, false));
        Checks.due("reason", stack.reason(), 3);
        stack.jump(2);
        Checks.due("it stays", stack.reason(), 3);
        Checks.dueThrow("4", REFUSED, stack::go);
        Checks.due("reason", stack.reason(), 4);
        stack.undo();
        stack.save();
        stack.restore();
        stack.clear();
        Checks.due("it stays", stack.reason(), 4);
        Checks.dueThrow("no refusal", NO_INDEX, () -> stack.unset(1, 0, false));
        Checks.due("it stays", stack.reason(), 4);
    }
}
