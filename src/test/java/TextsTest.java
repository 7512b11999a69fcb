import java.util.NoSuchElementException;

/** Promises 33 to 35: texts. */
final class TextsTest {
    private static final Class<IllegalArgumentException> BAD = IllegalArgumentException.class;
    private static final Class<IllegalStateException> STATE = IllegalStateException.class;
    private static final Class<NoSuchElementException> NONE = NoSuchElementException.class;

    public static void main(String[] args) throws IllegalAccessException {
        Checks.runAll(TextsTest.class);
    }

    private static void dueRead(CueStack stack, String text, int entries) {
        Stacks.type(stack, text);
        Checks.due("read of " + text, stack.read(), entries);
    }

    private static void dueNotDone(CueStack stack, String text) {
        Stacks.type(stack, text);
        Checks.dueThrow("read of " + text, STATE, stack::read);
    }

    private static void dueError(CueStack stack, String text, int position) {
        Stacks.type(stack, text);
        Checks.dueThrow("read of " + text, BAD, stack::read);
        Checks.due("errorPosition of " + text, stack.errorPosition(), position);
    }

    static void promise33Append() {
        CueStack stack = new CueStack();
        Checks.dueThrow("31", BAD, () -> stack.append((char) 31));
        Checks.dueThrow("127", BAD, () -> stack.append((char) 127));
        Checks.dueThrow("0", BAD, () -> stack.append((char) 0));
        Checks.dueThrow("65535", BAD, () -> stack.append((char) 65535));
        Checks.due("32", stack.append((char) 32), 1);
        Checks.due("126", stack.append((char) 126), 2);
        for (int length = 3; length <= 60; length++) {
            Checks.due("append", stack.append('g'), length);
        }
        Checks.dueThrow("61 characters", STATE, () -> stack.append('g'));
        Checks.dueThrow("the code comes first", BAD, () -> stack.append((char) 127));
        Checks.dueThrow("read", BAD, stack::read);
        Checks.due("empty", stack.append('g'), 1);
    }

    static void promise34Read() {
        CueStack stack = new CueStack();
        dueRead(stack, "c1;", 1);
        dueRead(stack, "c02;c30;c4;x4;", 4);
        Checks.due("cues", stack.account(0), 3);
        dueRead(stack, "s01/00@007;s2/11@100;r30/11;", 3);
        Checks.due("level", stack.level(30, 0), 7);
        Checks.due("level", stack.level(2, 11), 100);
        Checks.due("level", stack.level(30, 11), 0);
        for (int index = 0; index < 3; index++) {
            Checks.due("part 0", stack.instruction(index, 3), 0);
        }
        Checks.due("release", stack.instruction(2, 2), -1);
        dueRead(stack, "g;j30;t0012;", 3);
        Checks.due("last", stack.playing(0), 30);
        Checks.due("since", stack.playing(1), 12);
        Checks.due("went", stack.account(5), 2);
        dueRead(stack, "j1;", 1);
        Checks.due("last", stack.playing(0), 1);
        stack.setPart(30, 0, false, 10);
        dueRead(stack, "s1/5@50;t6000;t6000;t0;t0000;", 5);
        Checks.due("passed", stack.account(6), 12012);
        dueRead(stack, "t1;".repeat(20), 20);
        Checks.due("passed", stack.account(6), 12032);
    }

    static void promise34NothingIsHeld() {
        CueStack stack = Stacks.withCues(1, 2);
        dueRead(stack, "s1/0@50;", 1);
        Checks.due("level", stack.level(2, 0), 50);
        dueRead(stack, "r1/0;", 1);
        Checks.due("level", stack.level(2, 0), 0);
        dueRead(stack, "s1/0@50;x1;", 2);
        Checks.due("level", stack.level(2, 0), 0);
        Checks.due("instructions", stack.account(1), 0);
        stack.addCue(1);
        stack.setProtected(2, true);
        dueRead(stack, "s1/0@50;s1/0@40;r1/0;s1/0@30;x1;", 5);
    }

    static void promise34AllOrNothing() {
        CueStack stack = Stacks.withCues(1, 2);
        stack.set(1, 0, 10, 0, false);
        stack.go();
        stack.pass(3);
        dueNotDone(stack, "c5;s1/0@99;x2;j1;t9;c5;");
        Checks.due("cues", stack.account(0), 2);
        Checks.due("level", stack.level(2, 0), 10);
        Checks.due("passed", stack.account(6), 3);
        Checks.due("went", stack.account(5), 1);
        Checks.due("input", stack.append('c'), 1);
        Checks.dueThrow("reason", NONE, stack::reason);
        Checks.dueThrow("errorPosition", NONE, stack::errorPosition);
        Checks.due("undo is the pass", stack.undo(), 4);
        Checks.due("passed", stack.account(6), 0);
    }

    static void promise34CannotBeDone() {
        CueStack stack = Stacks.withCues(1, 2);
        for (String text : new String[] {"c0;", "c1;", "x3;", "x0;", "s3/0@0;", "s1/12@0;",
                "s1/0@101;", "s1/99@999;", "r3/0;", "r1/12;", "j3;", "j00;", "t6001;", "t9999;"}) {
            dueNotDone(stack, text);
            Checks.dueThrow("no refusal, no reason", NONE, stack::reason);
            dueNotDone(stack, "g;" + text);
        }
        Checks.due("nothing went", stack.account(5), 0);
        for (int number = 10; number < 20; number++) {
            stack.addCue(number);
        }
        dueNotDone(stack, "c50;");
        dueRead(stack, "x19;c50;", 2);
        for (int time = 0; time < 16; time++) {
            stack.pass(6000);
        }
        dueNotDone(stack, "t2000;t2001;");
        dueRead(stack, "t2000;t2000;", 2);
    }

    static void promise34Refused() {
        CueStack stack = Stacks.withCues(1, 2);
        stack.set(2, 0, 10, 0, false);
        dueNotDone(stack, "g;g;g;");
        Checks.due("reason", stack.reason(), 4);
        Checks.due("nothing went", stack.account(5), 0);
        stack.setProtected(2, true);
        dueNotDone(stack, "s2/0@1;");
        Checks.due("reason", stack.reason(), 1);
        dueNotDone(stack, "x1;g;g;");
        Checks.due("reason", stack.reason(), 4);
        dueNotDone(stack, "r2/0;");
        Checks.due("reason", stack.reason(), 1);
        dueNotDone(stack, "x2;g;");
        Checks.due("reason", stack.reason(), 1);
        stack.setProtected(2, false);
        for (int cue = 3; cue <= 7; cue++) {
            stack.addCue(cue);
            for (int channel = 0; channel < 12 && stack.account(1) < 60; channel++) {
                stack.set(cue, channel, 1, 0, false);
            }
        }
        dueNotDone(stack, "r2/1;");
        Checks.due("reason", stack.reason(), 2);
        dueRead(stack, "x3;r2/1;s2/2@2;s1/0@1;", 4);
    }

    static void promise34IsOneChange() {
        CueStack stack = new CueStack();
        dueRead(stack, "c1;c2;s1/0@50;g;t5;", 5);
        Checks.due("undo", stack.undo(), 0);
        Checks.due("cues", stack.account(0), 0);
        Checks.due("passed", stack.account(6), 0);
        Checks.due("last", stack.playing(0), 0);
        Checks.dueThrow("undo", NONE, stack::undo);
    }

    static void promise35ErrorPosition() {
        CueStack stack = Stacks.withCues(1, 2);
        Checks.dueThrow("none", NONE, stack::errorPosition);
        dueError(stack, "", 0);
        dueError(stack, "q", 0);
        dueError(stack, ";", 0);
        dueError(stack, "C1;", 0);
        dueError(stack, " c1;", 0);
        dueError(stack, "g", 1);
        dueError(stack, "g1;", 1);
        dueError(stack, "g;;", 2);
        dueError(stack, "g;h;", 2);
        dueError(stack, "c", 1);
        dueError(stack, "c;", 1);
        dueError(stack, "c1", 2);
        dueError(stack, "c12", 3);
        dueError(stack, "c123;", 3);
        dueError(stack, "x001;", 3);
        dueError(stack, "j1/2;", 2);
        dueError(stack, "j100;", 3);
        dueError(stack, "t12345;", 5);
        dueError(stack, "t;", 1);
        dueError(stack, "t1234", 5);
        dueError(stack, "r1;", 2);
        dueError(stack, "r1/;", 3);
        dueError(stack, "r1/2@3;", 4);
        dueError(stack, "r1g;", 2);
        dueError(stack, "rg;", 1);
        dueError(stack, "s1/2c3;", 4);
        dueError(stack, "c1c2;", 2);
        dueError(stack, "r1/123;", 5);
        dueError(stack, "s1/2;", 4);
        dueError(stack, "s1@2;", 2);
        dueError(stack, "s123/1@1;", 3);
        dueError(stack, "s1/2@;", 5);
        dueError(stack, "s1/2@1000;", 8);
        dueError(stack, "s1/2@100", 8);
        dueError(stack, "c9;x9;s", 7);
        dueError(stack, "g;".repeat(29) + "g", 59);
        dueError(stack, "g;".repeat(29) + "t1", 60);
        Checks.due("nothing was done", stack.account(0), 2);
        dueRead(stack, "c3;", 1);
        dueNotDone(stack, "c3;");
        Checks.due("it stays", stack.errorPosition(), 60);
        stack.undo();
        stack.clear();
        Checks.due("it stays", stack.errorPosition(), 60);
        dueError(stack, "g;/", 2);
        dueRead(stack, "t1;", 1);
        dueError(stack, "", 0);
        dueError(stack, "t", 1);
        dueNotDone(stack, "x9;");
        Checks.due("a cue that is not there is no error", stack.errorPosition(), 1);
    }
}
