/** The boundaries that promises 33 to 38 name. */
final class BoundsTextsTest {
    public static void main(String[] args) throws IllegalAccessException {
        Checks.runAll(BoundsTextsTest.class);
    }

    // ---- Promise 33

    @Says(promise = 33, value = "`character`: the character, with a code from 32 to 126")
    static void appendTakes32To126() {
        for (int code = 0; code <= 65535; code++) {
            CueStack stack = new CueStack();
            char character = (char) code;
            if (code >= 32 && code <= 126) {
                Checks.due("append " + code, stack.append(character), 1);
            } else {
                Checks.dueThrow("append " + code, Bounds.BAD, () -> stack.append(character));
                Checks.due("nothing came", stack.append('g'), 1);
            }
        }
    }

    @Says(promise = 33, value = "Returns the new length of the input.")
    static void appendTellsTheLength() {
        CueStack stack = new CueStack();
        for (int length = 1; length <= 60; length++) {
            Checks.due("append", stack.append('~'), length);
        }
        Checks.dueThrow("read", Bounds.BAD, stack::read);
        Checks.due("empty by a read that throws", stack.append('g'), 1);
        Checks.due("append", stack.append(';'), 2);
        Checks.dueThrow("read", Bounds.STATE, stack::read);
        Checks.due("empty by a text not done", stack.append('t'), 1);
        Checks.due("append", stack.append('1'), 2);
        Checks.due("append", stack.append(';'), 3);
        stack.read();
        Checks.due("empty by a text done", stack.append('g'), 1);
    }

    @Says(promise = 33,
        value = "Throws `IllegalArgumentException` if the character code is out of range")
    static void appendOutOfRange() {
        CueStack stack = Stacks.busy();
        stack.append('t');
        for (int code : new int[] {0, 9, 10, 31, 127, 128, 160, 255, 256 + 'g', 32768, 65535}) {
            Bounds.dueThrow(stack, "append " + code, Bounds.BAD,
                () -> stack.append((char) code));
        }
        Checks.due("nothing came", stack.append('1'), 2);
    }

    @Says(promise = 33, value = "Throws `IllegalStateException` if the input has 60 characters")
    static void appendAt60() {
        CueStack stack = Stacks.busy();
        Stacks.type(stack, "t001;".repeat(11) + "t001");
        Checks.due("the 60th", stack.append(';'), 60);
        Bounds.dueThrow(stack, "the 61st", Bounds.STATE, () -> stack.append('g'));
        Bounds.dueThrow(stack, "the 61st", Bounds.STATE, () -> stack.append((char) 32));
        Bounds.dueThrow(stack, "the 61st", Bounds.STATE, () -> stack.append((char) 126));
        Checks.due("the 60 are still there", stack.read(), 12);
        Checks.due("passed", stack.account(6), 25);
        Checks.due("room again", stack.append('g'), 1);
    }

    // ---- Promise 34

    @Says(promise = 34, value = "Does what the entries of the text in the input tell, in their "
        + "order, or nothing of it.")
    static void readDoesAllInOrderOrNothing() {
        CueStack stack = new CueStack();
        Bounds.dueRead(stack, "c1;c2;s1/0@9;s1/0@8;x2;c2;g;s1/0@7;g;j1;", 10);
        Checks.due("level", stack.level(2, 0), 7);
        Checks.due("target", stack.target(0), 7);
        Checks.due("went", stack.account(5), 3);
        Bounds.dueNotDone(stack, "x1;s2/0@1;c3;j3;t9;j1;");
        Bounds.dueNotDone(stack, "t6000;".repeat(9) + "c0;");
        Bounds.dueNotDone(stack, "x1;x2;g;", 4);
        Bounds.dueError(stack, "x1;x2;g", 7);
        Checks.due("cues", stack.account(0), 2);
        stack.addCue(50);
        for (int number = 51; number <= 59; number++) {
            stack.addCue(number);
        }
        Bounds.dueNotDone(stack, "c3;x50;");
        Bounds.dueRead(stack, "x50;c3;", 2);
    }

    @Says(promise = 34, value = "The input is empty afterwards, whatever happens.")
    static void readEmptiesTheInput() {
        CueStack stack = new CueStack();
        Bounds.dueRead(stack, "t1;", 1);
        Checks.due("done", stack.append('t'), 1);
        Checks.dueThrow("not a text", Bounds.BAD, stack::read);
        Checks.due("not a text", stack.append('g'), 1);
        stack.append(';');
        Checks.dueThrow("not done", Bounds.STATE, stack::read);
        Checks.dueThrow("the empty one", Bounds.BAD, stack::read);
        Checks.due("position", stack.errorPosition(), 0);
        Bounds.dueError(stack, "~".repeat(60), 0);
        Bounds.dueError(stack, "", 0);
        Checks.due("empty", stack.append('g'), 1);
    }

    @Says(promise = 34, value = "It is one change.")
    static void readIsOneChange() {
        CueStack stack = new CueStack();
        Bounds.dueRead(stack, "c1;c2;c3;c4;c5;c6;c7;c8;s1/0@9;g;t1;", 11);
        Checks.due("undo", stack.undo(), 0);
        Checks.due("nothing is left", stack.account(0) + stack.account(6), 0);
        Bounds.dueThrow(stack, "no other change", Bounds.NONE, stack::undo);
        for (int time = 0; time < 7; time++) {
            Bounds.dueRead(stack, "t1;t1;", 2);
        }
        for (int left = 5; left >= 0; left--) {
            Checks.due("undo", stack.undo(), left);
            Checks.due("passed", stack.account(6), 2 * left + 2);
        }
        stack.addCue(1);
        Bounds.dueNotDone(stack, "t1;c1;");
        Bounds.dueError(stack, "t1", 2);
        Checks.due("a text not done is none", stack.undo(), 0);
        Checks.due("cues", stack.account(0), 0);
    }

    @Says(promise = 34, value = "Returns the number of entries.")
    static void readTellsTheEntries() {
        CueStack stack = Stacks.allCues();
        for (int entries = 1; entries <= 12; entries++) {
            Bounds.dueRead(stack, "g;".repeat(entries), entries);
            stack.undo();
        }
        Bounds.dueRead(stack, "t1;".repeat(20), 20);
        Bounds.dueRead(stack, ("j1;" + "g;".repeat(11)).repeat(2) + "j1;g;g;", 27);
    }

    @Says(promise = 34, value = "Throws `IllegalArgumentException` if the input is not a text of "
        + "this kind; the error position is then kept for errorPosition")
    static void readOfNoText() {
        CueStack stack = Stacks.withCues(1);
        Bounds.dueError(stack, "", 0);
        Bounds.dueError(stack, ";", 0);
        Bounds.dueError(stack, "t1;?", 3);
        Bounds.dueError(stack, "x9;?", 3);
        Bounds.dueError(stack, "x1;c2;t1", 8);
        Bounds.dueError(stack, "g;".repeat(29) + "g", 59);
        Bounds.dueError(stack, "g;".repeat(29) + "gg", 59);
        Bounds.dueError(stack, "g;".repeat(29) + "j1", 60);
        Bounds.dueThrow(stack, "no reason", Bounds.NONE, stack::reason);
        Checks.due("nothing was done", stack.cueAt(0), 1);
    }

    @Says(promise = 34, value = "Throws `IllegalStateException` if the call for an entry, behind "
        + "those before it, would throw an exception; if it is a refusal, the reason is then kept")
    static void readOfATextThatCannotBeDone() {
        CueStack stack = Stacks.full();
        Bounds.dueNotDone(stack, "c7;");
        Bounds.dueNotDone(stack, "x7;x7;");
        Bounds.dueNotDone(stack, "x7;j7;");
        Bounds.dueThrow(stack, "no refusal", Bounds.NONE, stack::reason);
        Bounds.dueNotDone(stack, "c8;c9;c10;c11;c12;c13;");
        Bounds.dueNotDone(stack, "r6/0;", 2);
        Bounds.dueNotDone(stack, "x1;" + "r6/0;r6/1;".repeat(5) + "c8;c8;");
        Bounds.dueNotDone(stack, "j7;g;", 4);
        stack.setProtected(7, true);
        Bounds.dueNotDone(stack, "x6;x7;", 1);
        Bounds.dueNotDone(stack, "t6000;t6000;t6000;t6001;");
        Checks.due("the reason stays", stack.reason(), 1);
        Bounds.dueRead(stack, "x1;r6/0;r6/1;r6/2;r6/3;r6/4;r6/5;r6/6;r6/7;r6/8;r6/9;", 11);
        Checks.due("instructions", stack.account(1), 58);
    }

    // ---- Promise 35

    @Says(promise = 35, value = "it stays until the next text that is not as told is read")
    static void errorPositionStays() {
        CueStack stack = Stacks.withCues(1);
        Bounds.dueError(stack, "t1;q", 3);
        Bounds.dueRead(stack, "t1;", 1);
        Bounds.dueNotDone(stack, "c0;");
        Bounds.dueNotDone(stack, "g;g;", 4);
        stack.append('q');
        stack.save();
        stack.undo();
        stack.restore();
        stack.clear();
        Checks.due("it stays", stack.errorPosition(), 3);
        Checks.due("also when asked", stack.errorPosition(), 3);
        Checks.dueThrow("the next one", Bounds.BAD, stack::read);
        Checks.due("then not", stack.errorPosition(), 0);
    }

    @Says(promise = 35, value = "Throws `NoSuchElementException` if none was kept")
    static void errorPositionOfNone() {
        CueStack stack = new CueStack();
        Bounds.dueThrow(stack, "at first", Bounds.NONE, stack::errorPosition);
        stack.append('q');
        Bounds.dueThrow(stack, "not read yet", Bounds.NONE, stack::errorPosition);
        CueStack right = Stacks.withCues(1);
        Bounds.dueRead(right, "t1;", 1);
        Bounds.dueNotDone(right, "c1;");
        Bounds.dueNotDone(right, "g;g;", 4);
        Bounds.dueThrow(right, "no wrong text", Bounds.NONE, right::errorPosition);
    }

    // ---- Promise 36

    @Says(promise = 36, value = "Undoes the latest change that is remembered.")
    static void undoUndoesTheLatest() {
        CueStack stack = Stacks.withCues(1);
        String[] before = new String[6];
        for (int change = 0; change < 6; change++) {
            before[change] = Bounds.allOf(stack);
            changeSomething(stack, change);
        }
        for (int change = 5; change >= 0; change--) {
            Checks.due("undo", stack.undo(), change);
            Bounds.dueSame("undo", stack, before[change]);
        }
        stack.addCue(2);
        stack.undo();
        stack.addCue(3);
        stack.undo();
        Bounds.dueSame("undo behind undo", stack, before[0]);
    }

    private static void changeSomething(CueStack stack, int change) {
        switch (change) {
            case 0: stack.addCue(2); break;
            case 1: stack.set(1, 0, 50, 1, true); break;
            case 2: stack.setPart(1, 1, false, 10); break;
            case 3: stack.go(); break;
            case 4: stack.pass(3); break;
            default: stack.removeCue(1, true);
        }
    }

    @Says(promise = 36, value = "Returns the number of changes that are still remembered.")
    static void undoTellsTheChanges() {
        for (int changes = 1; changes <= 10; changes++) {
            CueStack stack = new CueStack();
            for (int change = 0; change < changes; change++) {
                stack.pass(1);
            }
            for (int left = Math.min(6, changes) - 1; left >= 0; left--) {
                Checks.due("undo", stack.undo(), left);
            }
            Checks.due("passed", stack.account(6), Math.max(0, changes - 6));
            Checks.dueThrow("undo", Bounds.NONE, stack::undo);
        }
    }

    @Says(promise = 36, value = "Throws `NoSuchElementException` if no change is remembered")
    static void undoOfNone() {
        CueStack stack = new CueStack();
        Bounds.dueThrow(stack, "at first", Bounds.NONE, stack::undo);
        Bounds.dueThrow(stack, "a call that throws", Bounds.BAD, () -> stack.addCue(0));
        Bounds.dueThrow(stack, "is no change", Bounds.NONE, stack::undo);
        stack.save();
        stack.append('g');
        Bounds.dueThrow(stack, "save and append are none", Bounds.NONE, stack::undo);
        Checks.due("the input is still there", stack.append(';'), 2);
        Checks.dueThrow("read", Bounds.STATE, stack::read);
        Bounds.dueThrow(stack, "a text not done is none", Bounds.NONE, stack::undo);
        stack.addCue(1);
        stack.undo();
        Bounds.dueThrow(stack, "undone", Bounds.NONE, stack::undo);
        stack.addCue(1);
        stack.restore();
        Bounds.dueThrow(stack, "restored", Bounds.NONE, stack::undo);
        stack.addCue(1);
        stack.clear();
        Bounds.dueThrow(stack, "cleared", Bounds.NONE, stack::undo);
    }

    // ---- Promise 37

    @Says(promise = 37, value = "Saves all that the history remembers for a change.")
    static void saveSavesAll() {
        CueStack busy = Stacks.busy();
        String before = Questions.answers(busy);
        busy.save();
        busy.clear();
        busy.restore();
        Checks.due("a busy one", Questions.answers(busy).equals(before), true);
        busy.pass(30);
        busy.restore();
        Checks.due("fades too", Questions.answers(busy).equals(before), true);
        CueStack full = Stacks.full();
        before = Questions.answers(full);
        full.save();
        full.removeCue(1, false);
        full.restore();
        Checks.due("a full one", Questions.answers(full).equals(before), true);
    }

    @Says(promise = 37, value = "What was saved before is replaced.")
    static void saveReplaces() {
        CueStack stack = Stacks.allCues();
        stack.save();
        stack.removeCue(12, false);
        stack.save();
        stack.clear();
        Checks.due("the later one", stack.restore(), 11);
        stack.clear();
        stack.save();
        stack.addCue(1);
        Checks.due("an empty one", stack.restore(), 0);
    }

    @Says(promise = 37, value = "Returns the number of cues.")
    static void saveTellsTheCues() {
        CueStack stack = new CueStack();
        for (int number = 1; number <= 12; number++) {
            Checks.due("save", stack.save(), number - 1);
            stack.addCue(number);
        }
        Checks.due("save", stack.save(), 12);
    }

    // ---- Promise 38

    @Says(promise = 38, value = "It stays saved.")
    static void whatWasSavedStays() {
        CueStack stack = Stacks.allCues();
        stack.save();
        for (int time = 1; time <= 3; time++) {
            stack.removeCue(time, false);
            stack.set(12, 0, time, 0, false);
            Checks.due("restore", stack.restore(), 12);
            Checks.due("instructions", stack.account(1), 0);
        }
        stack.clear();
        Checks.due("behind clear", stack.restore(), 12);
        stack.removeCue(12, false);
        stack.addCue(99);
        stack.undo();
        stack.undo();
        Checks.due("behind undo", stack.restore(), 12);
        Checks.due("and again", stack.restore(), 12);
    }

    @Says(promise = 38, value = "Returns the number of cues.")
    static void restoreTellsTheCues() {
        CueStack stack = new CueStack();
        stack.save();
        for (int number = 1; number <= 12; number++) {
            Checks.due("restore", stack.restore(), number - 1);
            stack.addCue(number);
            stack.save();
            stack.clear();
        }
        Checks.due("restore", stack.restore(), 12);
    }

    @Says(promise = 38, value = "Throws `IllegalStateException` if nothing was saved")
    static void restoreOfNone() {
        CueStack stack = Stacks.busy();
        Bounds.dueThrow(stack, "nothing", Bounds.STATE, stack::restore);
        Checks.due("the history is still there", stack.undo(), 5);
        stack.clear();
        Bounds.dueThrow(stack, "nothing", Bounds.STATE, stack::restore);
        stack.save();
        Checks.due("a stack without cues", stack.restore(), 0);
    }
}
