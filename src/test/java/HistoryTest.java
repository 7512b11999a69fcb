import java.util.NoSuchElementException;

/** Promises 36 to 38: undo, save and restore. */
final class HistoryTest {
    private static final Class<IndexOutOfBoundsException> NO_INDEX = IndexOutOfBoundsException.class;
    private static final Class<IllegalArgumentException> BAD = IllegalArgumentException.class;
    private static final Class<IllegalStateException> STATE = IllegalStateException.class;
    private static final Class<UnsupportedOperationException> REFUSED =
        UnsupportedOperationException.class;
    private static final Class<NoSuchElementException> NONE = NoSuchElementException.class;

    public static void main(String[] args) throws IllegalAccessException {
        Checks.runAll(HistoryTest.class);
    }

    private static void dueUndone(String call, CueStack stack, Checks.Call change) {
        String before = Questions.answers(stack);
        stack.save();
        change.answer();
        Checks.due("changes left behind " + call, stack.undo(), 5);
        dueSame("undo of " + call, stack, before);
    }

    private static void dueSame(String call, CueStack stack, String before) {
        Checks.due(call + " answers the same", Questions.answers(stack).equals(before), true);
    }

    static void promise36Undo() {
        CueStack stack = new CueStack();
        Checks.dueThrow("none", NONE, stack::undo);
        for (int number = 1; number <= 8; number++) {
            stack.addCue(number);
        }
        for (int left = 5; left >= 0; left--) {
            Checks.due("undo", stack.undo(), left);
            Checks.due("cues", stack.account(0), left + 2);
        }
        Checks.dueThrow("forgotten for good", NONE, stack::undo);
        Checks.due("cues", stack.account(0), 2);
        stack.addCue(50);
        Checks.due("again", stack.undo(), 0);
    }

    static void promise36EveryChangeIsUndone() {
        CueStack stack = Stacks.busy();
        dueUndone("addCue", stack, () -> stack.addCue(15));
        dueUndone("removeCue", stack, () -> stack.removeCue(20, false));
        dueUndone("removeCue held", stack, () -> stack.removeCue(20, true));
        dueUndone("setFollow", stack, () -> stack.setFollow(20, -1));
        dueUndone("setBlock", stack, () -> stack.setBlock(30, true));
        dueUndone("setProtected", stack, () -> stack.setProtected(30, true) ? 1 : 0);
        dueUndone("setPart", stack, () -> stack.setPart(30, 3, true, 1));
        dueUndone("setHome", stack, () -> stack.setHome(11, 1));
        dueUndone("set", stack, () -> stack.set(10, 1, 1, 1, false));
        dueUndone("set anew and held", stack, () -> stack.set(20, 0, 90, 1, true));
        dueUndone("release", stack, () -> stack.release(20, 0, 0, true));
        dueUndone("unset", stack, () -> stack.unset(10, 0, false));
        dueUndone("go", stack, stack::go);
        dueUndone("back", stack, stack::back);
        dueUndone("jump", stack, () -> stack.jump(40));
        dueUndone("pass", stack, () -> stack.pass(100));
        dueUndone("read", stack, () -> {
            Stacks.type(stack, "x10;c5;g;t8;");
            return stack.read();
        });
    }

    static void promise36AlsoIfNothingIsDifferent() {
        CueStack stack = Stacks.withCues(1);
        stack.set(1, 0, 0, 0, false);
        stack.set(1, 0, 0, 0, false);
        stack.pass(0);
        stack.setHome(0, 0);
        stack.setBlock(1, false);
        stack.setProtected(1, false);
        stack.setFollow(1, -1);
        for (int left = 5; left >= 0; left--) {
            Checks.due("undo", stack.undo(), left);
        }
        Checks.due("instructions", stack.account(1), 1);
    }

    static void promise36WhatThrowsIsNoChange() {
        CueStack stack = Stacks.withCues(1);
        stack.setProtected(1, true);
        String before = Questions.answers(stack);
        Checks.dueThrow("addCue", BAD, () -> stack.addCue(1));
        Checks.dueThrow("removeCue", REFUSED, () -> stack.removeCue(1, false));
        Checks.dueThrow("setFollow", BAD, () -> stack.setFollow(1, 0));
        Checks.dueThrow("setBlock", NO_INDEX, () -> stack.setBlock(2, true));
        Checks.dueThrow("setPart", BAD, () -> stack.setPart(1, 0, true, 601));
        Checks.dueThrow("setHome", BAD, () -> stack.setHome(0, 101));
        Checks.dueThrow("set", REFUSED, () -> stack.set(1, 0, 1, 0, false));
        Checks.dueThrow("release", REFUSED, () -> stack.release(1, 0, 0, false));
        Checks.dueThrow("unset", REFUSED, () -> stack.unset(1, 0, false));
        Checks.dueThrow("back", REFUSED, stack::back);
        Checks.dueThrow("jump", NO_INDEX, () -> stack.jump(2));
        Checks.dueThrow("pass", BAD, () -> stack.pass(6001));
        Checks.dueThrow("read", BAD, stack::read);
        dueSame("nothing is changed", stack, before);
        Checks.due("undo", stack.undo(), 1);
        Checks.due("undo", stack.undo(), 0);
    }

    static void promise36AFailedTextForgetsNothing() {
        CueStack stack = new CueStack();
        for (int number = 1; number <= 9; number++) {
            stack.addCue(number);
        }
        for (int time = 0; time < 8; time++) {
            Stacks.type(stack, "c20;x1;c20;");
            Checks.dueThrow("read", STATE, stack::read);
        }
        for (int left = 5; left >= 0; left--) {
            Checks.due("undo", stack.undo(), left);
            Checks.due("cues", stack.account(0), left + 3);
        }
    }

    static void promise36NotWhatTheHistoryLeaves() {
        CueStack stack = Stacks.withCues(1);
        stack.save();
        stack.addCue(2);
        Checks.dueThrow("go", REFUSED, () -> stack.unset(1, 0, false));
        stack.append('?');
        Checks.dueThrow("read", BAD, stack::read);
        stack.append('c');
        stack.undo();
        Checks.due("reason", stack.reason(), 3);
        Checks.due("errorPosition", stack.errorPosition(), 0);
        Checks.due("input", stack.append('3'), 2);
        stack.undo();
        Checks.due("saved", stack.restore(), 1);
    }

    static void promise37Save() {
        CueStack stack = Stacks.busy();
        Checks.due("save", stack.save(), 4);
        Checks.due("no change", stack.undo(), 5);
        stack.clear();
        Checks.due("replaced", stack.save(), 0);
        stack.addCue(1);
        Checks.due("restore", stack.restore(), 0);
    }

    static void promise38Restore() {
        CueStack stack = Stacks.busy();
        Checks.dueThrow("nothing was saved", STATE, stack::restore);
        String before = Questions.answers(stack);
        stack.save();
        stack.go();
        stack.pass(60);
        stack.removeCue(10, true);
        stack.setHome(2, 77);
        stack.set(20, 0, 3, 3, true);
        Checks.dueThrow("set", NO_INDEX, () -> stack.set(10, 0, 3, 3, true));
        Checks.due("restore", stack.restore(), 4);
        dueSame("restore", stack, before);
        Checks.dueThrow("all is forgotten", NONE, stack::undo);
        stack.clear();
        Checks.due("it stays saved", stack.restore(), 4);
        dueSame("restore", stack, before);
        stack.pass(5);
        Checks.due("a change since", stack.undo(), 0);
        dueSame("undo", stack, before);
    }

    static void promise38SavedIsAPlaceOfItsOwn() {
        CueStack stack = Stacks.busy();
        stack.save();
        stack.restore();
        stack.removeCue(20, false);
        stack.addCue(25);
        stack.set(25, 0, 1, 1, false);
        stack.restore();
        Checks.due("cue", stack.cueAt(1), 20);
        Checks.due("level", stack.level(20, 0), 20);
        stack.addCue(1);
        stack.undo();
        Checks.due("cue", stack.cueAt(0), 10);
    }
}
