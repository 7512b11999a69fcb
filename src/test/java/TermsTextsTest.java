/** The boundaries that "Terms" names of texts, of the history and of exceptions. */
final class TermsTextsTest {
    public static void main(String[] args) throws IllegalAccessException {
        Checks.runAll(TermsTextsTest.class);
    }

    // ---- Text

    @Says(promise = 0, value = "The input is a buffer of at most 60 characters.")
    static void theInputHasAtMost60Characters() {
        CueStack stack = new CueStack();
        for (int length = 1; length <= 60; length++) {
            Checks.due("append", stack.append(length % 3 == 1 ? 't' : length % 3 == 2 ? '1' : ';'),
                length);
        }
        Bounds.dueThrow(stack, "append", Bounds.STATE, () -> stack.append('g'));
        Bounds.dueThrow(stack, "append", Bounds.STATE, () -> stack.append(';'));
        Checks.due("all 60 are read", stack.read(), 20);
        Checks.due("passed", stack.account(6), 20);
        Checks.due("empty", stack.append('g'), 1);
    }

    @Says(promise = 0,
        value = "A text consists of one or several entries, each followed by a semicolon")
    static void textsHaveOneOrSeveralEntries() {
        CueStack stack = Stacks.withCues(1);
        Bounds.dueError(stack, "", 0);
        Bounds.dueError(stack, ";", 0);
        Bounds.dueError(stack, ";g;", 0);
        Bounds.dueError(stack, "t1", 2);
        Bounds.dueError(stack, "t1;;", 3);
        Bounds.dueError(stack, "t1;t1", 5);
        Bounds.dueError(stack, "t1t1;", 2);
        Bounds.dueError(stack, "t1,t1;", 2);
        Bounds.dueError(stack, "t1; t1;", 3);
        Bounds.dueRead(stack, "t1;", 1);
        Bounds.dueRead(stack, "t1;t1;", 2);
        for (int entries = 1; entries <= 8; entries++) {
            Bounds.dueRead(stack, "s1/0@1;".repeat(entries), entries);
            stack.undo();
        }
        CueStack all = Stacks.allCues();
        Bounds.dueRead(all, "g;".repeat(12), 12);
        Bounds.dueRead(all, "j1;" + "g;".repeat(11) + "j1;" + "g;".repeat(11) + "j1;" + "g;t1;",
            27);
        Checks.due("last", all.playing(0), 2);
        Bounds.dueNotDone(all, "g;".repeat(30), 4);
    }

    @Says(promise = 0, value = "c and a cue, which adds it")
    static void cAddsACue() {
        CueStack stack = new CueStack();
        Bounds.dueRead(stack, "c1;c99;", 2);
        Checks.due("cue", stack.cueAt(0), 1);
        Checks.due("cue", stack.cueAt(1), 99);
        Bounds.dueNotDone(stack, "c0;");
        Bounds.dueNotDone(stack, "c00;");
        Bounds.dueNotDone(stack, "c1;");
        Bounds.dueNotDone(stack, "c5;c5;");
        Bounds.dueRead(stack, "c2;c3;c4;c5;c6;c7;c8;c9;c10;c11;", 10);
        Bounds.dueNotDone(stack, "c12;");
        Bounds.dueRead(stack, "x11;c12;", 2);
        Bounds.dueError(stack, "c;", 1);
        Bounds.dueError(stack, "c-1;", 1);
        Bounds.dueError(stack, "c100;", 3);
    }

    @Says(promise = 0, value = "x and a cue, which removes it")
    static void xRemovesACue() {
        CueStack stack = Stacks.withCues(1, 99);
        stack.set(99, 0, 5, 0, false);
        Bounds.dueNotDone(stack, "x2;");
        Bounds.dueNotDone(stack, "x0;");
        Bounds.dueNotDone(stack, "x1;x1;");
        Bounds.dueRead(stack, "x1;x99;", 2);
        Checks.due("cues", stack.account(0), 0);
        Checks.due("instructions", stack.account(1), 0);
        Bounds.dueNotDone(stack, "x1;");
        Bounds.dueRead(stack, "c1;x1;", 2);
    }

    @Says(promise = 0, value = "s, a cue, a slash, a channel, an at sign and a level, which gives "
        + "an instruction of part 0")
    static void sGivesAnInstruction() {
        CueStack stack = Stacks.withCues(1, 99);
        Bounds.dueRead(stack, "s1/0@0;s99/11@100;", 2);
        Bounds.dueList(stack, new int[] {1, 0, 0, 0}, new int[] {99, 11, 100, 0});
        stack.set(1, 0, 7, 3, false);
        Bounds.dueRead(stack, "s1/0@7;", 1);
        Bounds.dueInstruction(stack, 0, 1, 0, 7, 0);
        Bounds.dueNotDone(stack, "s2/0@0;");
        Bounds.dueNotDone(stack, "s1/12@0;");
        Bounds.dueNotDone(stack, "s1/0@101;");
        Bounds.dueNotDone(stack, "s0/99@999;");
        Bounds.dueError(stack, "s1/0;", 4);
        Bounds.dueError(stack, "s1@0/0;", 2);
        Bounds.dueError(stack, "s1/0@;", 5);
        Bounds.dueError(stack, "s/0@0;", 1);
        Bounds.dueError(stack, "s1/@0;", 3);
    }

    @Says(promise = 0, value = "r, a cue, a slash and a channel, which gives a release of part 0")
    static void rGivesARelease() {
        CueStack stack = Stacks.withCues(1, 99);
        stack.set(1, 0, 7, 3, false);
        Bounds.dueRead(stack, "r1/0;r99/11;", 2);
        Bounds.dueList(stack, new int[] {1, 0, -1, 0}, new int[] {99, 11, -1, 0});
        Bounds.dueNotDone(stack, "r2/0;");
        Bounds.dueNotDone(stack, "r1/12;");
        Bounds.dueError(stack, "r1;", 2);
        Bounds.dueError(stack, "r1/;", 3);
        Bounds.dueError(stack, "r1/0@0;", 4);
        Bounds.dueError(stack, "r/0;", 1);
    }

    @Says(promise = 0, value = "none of these is held")
    static void noEntryIsHeld() {
        CueStack stack = Stacks.withCues(1, 2, 3);
        stack.setProtected(2, true);
        Bounds.dueRead(stack, "s1/0@50;", 1);
        Bounds.dueLevels(stack, 0, 50, 50, 50);
        Bounds.dueRead(stack, "r1/0;", 1);
        Bounds.dueLevels(stack, 0, 0, 0, 0);
        Bounds.dueRead(stack, "s1/0@60;x1;", 2);
        Bounds.dueLevels(stack, 0, 0, 0);
        Checks.due("instructions", stack.account(1), 0);
    }

    @Says(promise = 0, value = "g, which lets the next cue go")
    static void gLetsTheNextCueGo() {
        CueStack stack = Stacks.withCues(1, 99);
        Bounds.dueRead(stack, "g;g;", 2);
        Checks.due("last", stack.playing(0), 99);
        Bounds.dueNotDone(stack, "g;", 4);
        stack.undo();
        Bounds.dueNotDone(stack, "g;g;g;", 4);
        Checks.due("none went", stack.playing(0), 0);
        Bounds.dueError(stack, "g1;", 1);
        Bounds.dueError(stack, "g", 1);
        Bounds.dueError(stack, "G;", 0);
    }

    @Says(promise = 0, value = "j and a cue, which jumps to it")
    static void jJumpsToACue() {
        CueStack stack = Stacks.withCues(1, 99);
        Bounds.dueRead(stack, "j99;j1;j99;", 3);
        Checks.due("last", stack.playing(0), 99);
        Checks.due("went", stack.account(5), 3);
        Bounds.dueNotDone(stack, "j2;");
        Bounds.dueNotDone(stack, "j0;");
        Bounds.dueNotDone(stack, "j1;x1;j1;");
        Bounds.dueError(stack, "j;", 1);
        Bounds.dueError(stack, "j100;", 3);
    }

    @Says(promise = 0, value = "or t and a number of tenths that pass")
    static void tLetsTenthsPass() {
        CueStack stack = Stacks.withCues(1, 2);
        stack.setFollow(1, 10);
        Bounds.dueRead(stack, "t0;t6000;", 2);
        Checks.due("passed", stack.account(6), 6000);
        Bounds.dueRead(stack, "g;t9;", 2);
        Checks.due("not yet", stack.playing(0), 1);
        Bounds.dueRead(stack, "t1;", 1);
        Checks.due("followed", stack.playing(0), 2);
        Bounds.dueNotDone(stack, "t6001;");
        Bounds.dueNotDone(stack, "t9999;");
        Bounds.dueError(stack, "t;", 1);
        Bounds.dueError(stack, "t-1;", 1);
        CueStack end = Stacks.atTheEndOfTime();
        Bounds.dueRead(end, "t0;", 1);
        Bounds.dueNotDone(end, "t1;");
        end.undo();
        end.undo();
        Bounds.dueNotDone(end, "t4000;t1;");
        Bounds.dueRead(end, "t3999;t1;", 2);
    }

    @Says(promise = 0, value = "Cues and channels are numbers of one or two digits")
    static void cuesAndChannelsHaveOneOrTwoDigits() {
        CueStack stack = new CueStack();
        Bounds.dueRead(stack, "c1;c02;c30;", 3);
        Bounds.dueRead(stack, "s1/1@1;s02/02@1;s30/11@1;r01/1;r1/01;", 5);
        Bounds.dueRead(stack, "j2;j02;x2;x01;", 4);
        for (String kind : new String[] {"c", "x", "j", "s", "r"}) {
            Bounds.dueError(stack, kind, 1);
            Bounds.dueError(stack, kind + ";", 1);
            Bounds.dueError(stack, kind + "001", 3);
            Bounds.dueError(stack, kind + " 1;", 1);
            Bounds.dueError(stack, kind + "+1;", 1);
            Bounds.dueError(stack, kind + "1 ;", 2);
            Bounds.dueError(stack, kind + "1:", 2);
            Bounds.dueError(stack, kind + "1a", 2);
        }
        Bounds.dueError(stack, "s1/123@1;", 5);
        Bounds.dueError(stack, "r1/123;", 5);
        Bounds.dueError(stack, "r1/;", 3);
        Bounds.dueError(stack, "s1/@1;", 3);
    }

    @Says(promise = 0, value = "levels of one to three")
    static void levelsHaveOneToThreeDigits() {
        CueStack stack = Stacks.withCues(1);
        String[] levels = {"0", "9", "10", "99", "100", "00", "000", "007", "07"};
        int[] due = {0, 9, 10, 99, 100, 0, 0, 7, 7};
        for (int index = 0; index < levels.length; index++) {
            Bounds.dueRead(stack, "s1/0@" + levels[index] + ";", 1);
            Checks.due("level", stack.level(1, 0), due[index]);
        }
        Bounds.dueNotDone(stack, "s1/0@101;");
        Bounds.dueNotDone(stack, "s1/0@999;");
        Bounds.dueError(stack, "s1/0@;", 5);
        Bounds.dueError(stack, "s1/0@1000;", 8);
        Bounds.dueError(stack, "s1/0@0000;", 8);
        Bounds.dueError(stack, "s1/0@-1;", 5);
    }

    @Says(promise = 0, value = "tenths of one to four")
    static void tenthsHaveOneToFourDigits() {
        CueStack stack = new CueStack();
        int passed = 0;
        String[] tenths = {"0", "9", "10", "99", "100", "999", "1000", "6000", "0000"};
        for (String given : tenths) {
            Bounds.dueRead(stack, "t" + given + ";", 1);
            passed += Integer.parseInt(given);
            Checks.due("passed", stack.account(6), passed);
        }
        Bounds.dueNotDone(stack, "t6001;");
        Bounds.dueError(stack, "t;", 1);
        Bounds.dueError(stack, "t10000;", 5);
        Bounds.dueError(stack, "t00000;", 5);
    }

    @Says(promise = 0, value = "zeros at the front are allowed")
    static void zerosAtTheFrontAreAllowed() {
        CueStack stack = new CueStack();
        Bounds.dueRead(stack, "c01;c09;s09/00@000;s01/01@010;r09/01;j01;t0001;x09;", 8);
        Checks.due("cues", stack.account(0), 1);
        Checks.due("level", stack.now(1), 10);
        Checks.due("passed", stack.account(6), 1);
        Bounds.dueNotDone(stack, "c01;");
        Bounds.dueNotDone(stack, "c00;");
        Bounds.dueError(stack, "c001;", 3);
    }

    @Says(promise = 0, value = "is the smallest index k such that no text of this kind starts with "
        + "the first k + 1 characters of it")
    static void theErrorPositionIsTheSmallestIndex() {
        CueStack stack = new CueStack();
        PlainStack plain = new PlainStack();
        String[] texts = {"c12;", "x1;", "s12/11@100;", "s1/1@1;", "r12/11;", "r1/1;", "g;",
            "j12;", "t6000;", "t1;"};
        for (String text : texts) {
            for (int place = 0; place < text.length(); place++) {
                for (char sign = 32; sign <= 126; sign++) {
                    dueSamePosition(stack, plain, text.substring(0, place) + sign
                        + text.substring(place + 1) + "!");
                    dueSamePosition(stack, plain, "t1;" + text.substring(0, place) + sign);
                }
            }
        }
        Bounds.dueError(stack, "c1;s2/3@4;t55555;q", 15);
        Bounds.dueError(stack, "q;q;", 0);
    }

    private static void dueSamePosition(CueStack stack, PlainStack plain, String text) {
        Stacks.type(stack, text);
        for (char sign : text.toCharArray()) {
            plain.append(sign);
        }
        boolean isSame = answer(stack::read).equals(answer(plain::read));
        Checks.due("read of " + text + " is as in the plain program", isSame, true);
        isSame = answer(stack::errorPosition).equals(answer(plain::errorPosition));
        Checks.due("errorPosition of " + text + " is as in the plain program", isSame, true);
    }

    private static String answer(Checks.Call call) {
        try {
            return Long.toString(call.answer());
        } catch (RuntimeException thrown) {
            return thrown.getClass().getName();
        }
    }

    @Says(promise = 0, value = "if there is no such index, it is the length of the text")
    static void theErrorPositionIsElseTheLength() {
        CueStack stack = new CueStack();
        Bounds.dueError(stack, "", 0);
        for (String text : new String[] {"c12;", "x1;", "s12/11@100;", "r12/11;", "g;", "j12;",
                "t6000;"}) {
            for (int length = 0; length < text.length(); length++) {
                Bounds.dueError(stack, text.substring(0, length), length);
                if (length > 0) {
                    Bounds.dueError(stack, "t1;t2;" + text.substring(0, length), 6 + length);
                }
            }
        }
        Bounds.dueError(stack, "t1;".repeat(19) + "t1", 59);
        Bounds.dueError(stack, "t1;".repeat(19) + "t11", 60);
        Bounds.dueError(stack, "g;".repeat(29) + "s1", 60);
    }

    // ---- History

    private static void dueOneChange(String call, Checks.Call undone, CueStack stack) {
        Checks.due("one change by " + call, undone.answer(), 0);
        Checks.dueThrow("no other one by " + call, Bounds.NONE, stack::undo);
    }

    /** A stack of which no change is remembered. */
    private static CueStack fresh() {
        CueStack stack = Stacks.busy();
        stack.save();
        stack.restore();
        return stack;
    }

    private static void dueChange(String call, Bounds.OfNumber change) {
        CueStack stack = fresh();
        String before = Bounds.allOf(stack);
        change.answer(stack, 0);
        dueOneChange(call, stack::undo, stack);
        Bounds.dueSame("undo of " + call, stack, before);
    }

    @Says(promise = 0, value = "A change is a call of addCue, removeCue, setFollow, setBlock, "
        + "setProtected, setPart, setHome, set, release, unset, go, back, jump, pass or read that "
        + "returns without an exception")
    static void theseCallsAreChanges() {
        dueChange("addCue", (s, n) -> s.addCue(99));
        dueChange("removeCue", (s, n) -> s.removeCue(20, true));
        dueChange("setFollow", (s, n) -> s.setFollow(10, 1));
        dueChange("setBlock", (s, n) -> s.setBlock(10, true));
        dueChange("setProtected", (s, n) -> s.setProtected(10, true) ? 1 : 0);
        dueChange("setPart", (s, n) -> s.setPart(10, 3, true, 600));
        dueChange("setHome", (s, n) -> s.setHome(11, 100));
        dueChange("set", (s, n) -> s.set(10, 11, 100, 3, true));
        dueChange("release", (s, n) -> s.release(20, 0, 3, true));
        dueChange("unset", (s, n) -> s.unset(20, 0, true));
        dueChange("go", (s, n) -> s.go());
        dueChange("back", (s, n) -> s.back());
        dueChange("jump", (s, n) -> s.jump(40));
        dueChange("pass", (s, n) -> s.pass(6000));
        dueChange("read", (s, n) -> {
            Stacks.type(s, "c1;x10;s1/0@1;r1/1;g;j1;t5;");
            return s.read();
        });
    }

    @Says(promise = 0, value = "also if nothing is different then")
    static void aChangeNeedsNoDifference() {
        dueChange("setFollow", (s, n) -> s.setFollow(20, 50));
        dueChange("setBlock", (s, n) -> s.setBlock(40, true));
        dueChange("setProtected", (s, n) -> s.setProtected(10, false) ? 1 : 0);
        dueChange("setPart", (s, n) -> s.setPart(10, 1, false, 20));
        dueChange("setHome", (s, n) -> s.setHome(2, 5));
        dueChange("set", (s, n) -> s.set(10, 0, 80, 1, true));
        dueChange("release", (s, n) -> s.release(20, 2, 3, true));
        dueChange("pass", (s, n) -> s.pass(0));
        dueChange("read", (s, n) -> {
            Stacks.type(s, "t0;");
            return s.read();
        });
    }

    @Says(promise = 0, value = "The object remembers everything except the reason, the input, the "
        + "error position and what was saved, as it is just before a change")
    static void theRestIsNotRemembered() {
        CueStack stack = Stacks.withCues(1);
        stack.save();
        stack.addCue(2);
        Bounds.dueRefused(stack, "unset", 3, () -> stack.unset(1, 0, false));
        Bounds.dueError(stack, "g?", 1);
        stack.append('c');
        stack.save();
        Checks.due("undo", stack.undo(), 1);
        Checks.due("reason", stack.reason(), 3);
        Checks.due("errorPosition", stack.errorPosition(), 1);
        Checks.due("input", stack.append('3'), 2);
        Checks.due("saved", stack.restore(), 2);
        Checks.due("input", stack.append(';'), 3);
        Checks.due("read", stack.read(), 1);
        Checks.due("cue", stack.cueAt(2), 3);
    }

    @Says(promise = 0, value = "for at most 6 changes, of which the oldest one is forgotten for "
        + "good when there would be more")
    static void atMost6ChangesAreRemembered() {
        CueStack six = Stacks.withCues(1, 2, 3, 4, 5, 6);
        for (int left = 5; left >= 0; left--) {
            Checks.due("undo", six.undo(), left);
        }
        Checks.due("cues", six.account(0), 0);
        Checks.dueThrow("undo", Bounds.NONE, six::undo);
        CueStack seven = Stacks.withCues(1, 2, 3, 4, 5, 6, 7);
        for (int left = 5; left >= 0; left--) {
            Checks.due("undo", seven.undo(), left);
        }
        Checks.due("cues", seven.account(0), 1);
        Checks.dueThrow("for good", Bounds.NONE, seven::undo);
        for (int number = 2; number <= 12; number++) {
            seven.addCue(number);
            seven.undo();
            Checks.dueThrow("for good", Bounds.NONE, seven::undo);
        }
        CueStack mixed = Stacks.withCues(1, 2, 3, 4, 5, 6, 7, 8);
        mixed.undo();
        mixed.undo();
        Checks.due("4 are left", mixed.undo(), 3);
        for (int number = 20; number <= 23; number++) {
            mixed.addCue(number);
        }
        for (int left = 5; left >= 0; left--) {
            Checks.due("undo", mixed.undo(), left);
            Checks.due("cues", mixed.account(0), left + 3);
        }
        Checks.dueThrow("for good", Bounds.NONE, mixed::undo);
    }

    @Says(promise = 0, value = "clear and restore forget all of them.")
    static void clearAndRestoreForgetAll() {
        CueStack stack = Stacks.withCues(1, 2, 3, 4, 5, 6, 7);
        stack.save();
        stack.clear();
        Checks.dueThrow("behind clear", Bounds.NONE, stack::undo);
        stack.addCue(9);
        stack.addCue(8);
        stack.restore();
        Checks.dueThrow("behind restore", Bounds.NONE, stack::undo);
        Checks.due("cues", stack.account(0), 7);
        stack.addCue(9);
        Checks.due("a change since", stack.undo(), 0);
        Checks.dueThrow("no other one", Bounds.NONE, stack::undo);
        stack.addCue(9);
        stack.clear();
        stack.addCue(9);
        Checks.due("a change since", stack.undo(), 0);
        Checks.due("cues", stack.account(0), 0);
    }

    // ---- Exceptions

    @Says(promise = 0, value = "A method that throws an exception leaves the state unchanged, "
        + "unless its documentation says otherwise.")
    static void whatThrowsLeavesTheStateUnchanged() {
        CueStack stack = Stacks.full();
        stack.setProtected(1, true);
        stack.save();
        stack.append('t');
        stack.jump(7);
        Bounds.dueThrow(stack, "addCue", Bounds.BAD, () -> stack.addCue(1));
        Bounds.dueThrow(stack, "removeCue", Bounds.NO_INDEX, () -> stack.removeCue(8, true));
        Bounds.dueThrow(stack, "cueAt", Bounds.NONE, () -> stack.cueAt(7));
        Bounds.dueThrow(stack, "setFollow", Bounds.BAD, () -> stack.setFollow(1, 0));
        Bounds.dueThrow(stack, "setBlock", Bounds.NO_INDEX, () -> stack.setBlock(8, true));
        Bounds.dueThrow(stack, "setProtected", Bounds.NO_INDEX,
            () -> stack.setProtected(8, true) ? 1 : 0);
        Bounds.dueThrow(stack, "setPart", Bounds.BAD, () -> stack.setPart(1, 0, true, 601));
        Bounds.dueThrow(stack, "cue", Bounds.BAD, () -> stack.cue(1, 7));
        Bounds.dueThrow(stack, "setHome", Bounds.BAD, () -> stack.setHome(0, 101));
        Bounds.dueThrow(stack, "set", Bounds.BAD, () -> stack.set(2, 0, 101, 0, true));
        Bounds.dueThrow(stack, "jump", Bounds.NO_INDEX, () -> stack.jump(8));
        Bounds.dueThrow(stack, "pass", Bounds.BAD, () -> stack.pass(6001));
        Bounds.dueThrow(stack, "append", Bounds.BAD, () -> stack.append((char) 127));
        Bounds.dueThrow(stack, "errorPosition", Bounds.NONE, stack::errorPosition);
        Bounds.dueThrow(stack, "reason", Bounds.NONE, stack::reason);
        Bounds.dueRefused(stack, "set", 2, () -> stack.set(5, 0, 99, 0, true));
        Bounds.dueRefused(stack, "release", 1, () -> stack.release(1, 0, 0, false));
        Bounds.dueRefused(stack, "unset", 3, () -> stack.unset(7, 0, false));
        Bounds.dueRefused(stack, "removeCue", 1, () -> stack.removeCue(1, false));
        Bounds.dueRefused(stack, "go", 4, stack::go);
        Checks.due("input", stack.append('7'), 2);
        Checks.due("input", stack.append(';'), 3);
        Checks.due("read", stack.read(), 1);
        Checks.due("passed", stack.account(6), 7);
        for (int left = 5; left >= 0; left--) {
            Checks.due("history", stack.undo(), left);
        }
        Checks.due("saved", stack.restore(), 7);
        Checks.due("saved", stack.cue(1, 3), 1);
    }

    @Says(promise = 0,
        value = "If several exceptions apply, the one that is documented first is thrown.")
    static void theFirstExceptionIsThrown() {
        CueStack stack = Stacks.full();
        for (int number = 8; number <= 12; number++) {
            stack.addCue(number);
        }
        stack.setProtected(1, true);
        Bounds.dueThrow(stack, "addCue", Bounds.BAD, () -> stack.addCue(100));
        Bounds.dueThrow(stack, "addCue", Bounds.BAD, () -> stack.addCue(12));
        Bounds.dueThrow(stack, "setFollow", Bounds.NO_INDEX, () -> stack.setFollow(13, 0));
        Bounds.dueThrow(stack, "setPart", Bounds.NO_INDEX, () -> stack.setPart(13, 0, true, 601));
        Bounds.dueThrow(stack, "setPart", Bounds.NO_INDEX, () -> stack.setPart(1, 4, true, 601));
        Bounds.dueThrow(stack, "cue", Bounds.NO_INDEX, () -> stack.cue(13, 7));
        Bounds.dueThrow(stack, "setHome", Bounds.NO_INDEX, () -> stack.setHome(12, 101));
        Bounds.dueThrow(stack, "set", Bounds.NO_INDEX, () -> stack.set(13, 0, 101, 0, false));
        Bounds.dueThrow(stack, "set", Bounds.NO_INDEX, () -> stack.set(1, 12, 101, 0, false));
        Bounds.dueThrow(stack, "set", Bounds.NO_INDEX, () -> stack.set(1, 0, 101, 4, false));
        Bounds.dueThrow(stack, "set", Bounds.BAD, () -> stack.set(1, 0, 101, 0, false));
        Bounds.dueThrow(stack, "set", Bounds.BAD, () -> stack.set(6, 0, -1, 0, false));
        Bounds.dueThrow(stack, "release", Bounds.NO_INDEX, () -> stack.release(1, 12, 0, false));
        Bounds.dueThrow(stack, "release", Bounds.NO_INDEX, () -> stack.release(6, 0, 4, false));
        Bounds.dueThrow(stack, "unset", Bounds.NO_INDEX, () -> stack.unset(1, 12, false));
        Bounds.dueThrow(stack, "unset", Bounds.NO_INDEX, () -> stack.unset(13, 0, false));
        Bounds.dueThrow(stack, "instruction", Bounds.NONE, () -> stack.instruction(60, 4));
        Stacks.type(stack, "x99;c1;q");
        Checks.dueThrow("read", Bounds.BAD, stack::read);
        Stacks.type(stack, "t1;".repeat(20));
        Bounds.dueThrow(stack, "append", Bounds.BAD, () -> stack.append((char) 31));
        CueStack end = Stacks.atTheEndOfTime();
        Bounds.dueThrow(end, "pass", Bounds.BAD, () -> end.pass(6001));
        Bounds.dueThrow(end, "pass", Bounds.BAD, () -> end.pass(Integer.MAX_VALUE));
        Bounds.dueThrow(end, "pass", Bounds.STATE, () -> end.pass(6000));
    }

    @Says(promise = 0, value = "Sets of channels are bit masks, bit k for channel k.")
    static void setsAreBitMasks() {
        for (int channel = 0; channel < 12; channel++) {
            CueStack stack = Stacks.withCues(1);
            stack.set(1, channel, 1, 0, false);
            stack.setPart(1, 0, false, 1);
            stack.go();
            Checks.due("moving", stack.cue(1, 5), 1 << channel);
            Checks.due("fading", stack.playing(3), 1 << channel);
        }
        CueStack all = Stacks.withCues(1);
        for (int channel = 0; channel < 12; channel++) {
            all.set(1, channel, 1, 0, false);
        }
        all.setPart(1, 0, true, 1);
        Checks.due("none", all.playing(3), 0);
        all.go();
        Checks.due("moving", all.cue(1, 5), 4095);
        Checks.due("fading", all.playing(3), 4095);
    }

    @Says(promise = 0,
        value = "Methods whose documentation does not mention a change only answer a question.")
    static void questionsChangeNothing() {
        CueStack stack = Stacks.busy();
        Bounds.dueRefused(stack, "unset", 3, () -> stack.unset(10, 11, false));
        Bounds.dueError(stack, "?", 0);
        stack.append('t');
        String before = Bounds.allOf(stack);
        Bounds.dueSame("asking all", stack, before);
        Bounds.dueSame("asking all again", stack, before);
        Checks.due("input", stack.append('1'), 2);
        for (int left = 5; left >= 0; left--) {
            Checks.due("no question is a change", stack.undo(), left);
        }
        Bounds.dueThrow(stack, "nothing was saved by it", Bounds.STATE, stack::restore);
    }
}
