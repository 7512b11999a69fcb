import java.util.NoSuchElementException;

/** Promises 1 to 11: a new object, and the cues. */
final class CuesTest {
    private static final Class<IndexOutOfBoundsException> NO_INDEX = IndexOutOfBoundsException.class;
    private static final Class<IllegalArgumentException> BAD = IllegalArgumentException.class;
    private static final Class<UnsupportedOperationException> REFUSED =
        UnsupportedOperationException.class;

    public static void main(String[] args) throws IllegalAccessException {
        Checks.runAll(CuesTest.class);
    }

    static void promise01NewObject() {
        CueStack stack = new CueStack();
        for (int account = 0; account <= 10; account++) {
            Checks.due("account " + account, stack.account(account), 0);
        }
        for (int channel = 0; channel < 12; channel++) {
            Checks.due("now", stack.now(channel), 0);
            Checks.due("target", stack.target(channel), 0);
            Checks.due("home", stack.setHome(channel, 0), 0);
        }
        Checks.due("last", stack.playing(0), 0);
        Checks.due("since", stack.playing(1), 0);
        Checks.due("next", stack.playing(2), 0);
        Checks.due("fading", stack.playing(3), 0);
        Checks.due("until", stack.playing(4), -1);
        Checks.dueThrow("cueAt", NoSuchElementException.class, () -> stack.cueAt(0));
        Checks.dueThrow("reason", NoSuchElementException.class, stack::reason);
        Checks.dueThrow("errorPosition", NoSuchElementException.class, stack::errorPosition);
        Checks.dueThrow("restore", IllegalStateException.class, stack::restore);
        Checks.due("a", stack.append('a'), 1);
        CueStack other = new CueStack();
        Checks.dueThrow("undo", NoSuchElementException.class, other::undo);
    }

    static void promise02Clear() {
        CueStack stack = Stacks.withCues(1, 2, 3);
        for (int channel = 0; channel < 12; channel++) {
            stack.setHome(channel, 7);
        }
        stack.set(1, 0, 50, 0, false);
        stack.setProtected(2, true);
        stack.setBlock(3, true);
        stack.setFollow(1, 5);
        stack.setPart(1, 0, true, 50);
        stack.setPart(1, 0, false, 100);
        stack.save();
        stack.pass(60);
        stack.go();
        stack.pass(3);
        Checks.dueThrow("unset", REFUSED, () -> stack.unset(3, 3, false));
        Stacks.type(stack, "zz");
        Checks.dueThrow("read", BAD, stack::read);
        Stacks.type(stack, "c9");
        Checks.due("clear", stack.clear(), 3);
        Checks.due("clear", stack.clear(), 0);
        for (int account = 0; account <= 10; account++) {
            Checks.due("account " + account, stack.account(account), 0);
        }
        for (int channel = 0; channel < 12; channel++) {
            Checks.due("now", stack.now(channel), 0);
            Checks.due("target", stack.target(channel), 0);
        }
        for (int what = 0; what <= 3; what++) {
            Checks.due("playing " + what, stack.playing(what), 0);
        }
        Checks.dueThrow("undo", NoSuchElementException.class, stack::undo);
        Checks.due("reason", stack.reason(), 3);
        Checks.due("errorPosition", stack.errorPosition(), 0);
        Checks.due("input", stack.append(';'), 4 - 1);
        Checks.due("read", stack.read(), 1);
        Checks.due("cue of the input", stack.cueAt(0), 9);
        for (int channel = 0; channel < 12; channel++) {
            Checks.due("home", stack.level(9, channel), 0);
        }
        Checks.due("restore", stack.restore(), 3);
        Checks.due("saved home", stack.level(2, 4), 7);
        Checks.due("clear", stack.clear(), 3);
        stack.addCue(1);
        Checks.due("follow", stack.cue(1, 1), -1);
        Checks.due("block", stack.cue(1, 2), 0);
        Checks.due("protected", stack.cue(1, 3), 0);
        Checks.due("instructions", stack.cue(1, 4), 0);
        Checks.due("time", stack.part(1, 0, false), 0);
    }

    static void promise03AddCue() {
        CueStack stack = new CueStack();
        Checks.dueThrow("addCue(0)", BAD, () -> stack.addCue(0));
        Checks.dueThrow("addCue(100)", BAD, () -> stack.addCue(100));
        Checks.dueThrow("addCue(-1)", BAD, () -> stack.addCue(-1));
        Checks.dueThrow("addCue(least)", BAD, () -> stack.addCue(Integer.MIN_VALUE));
        Checks.dueThrow("addCue(most)", BAD, () -> stack.addCue(Integer.MAX_VALUE));
        Checks.due("addCue(99)", stack.addCue(99), 1);
        Checks.due("addCue(1)", stack.addCue(1), 2);
        Checks.dueThrow("addCue(99) again", BAD, () -> stack.addCue(99));
        for (int number = 10; number < 20; number++) {
            Checks.due("addCue", stack.addCue(number), number - 7);
        }
        Checks.dueThrow("a cue too many", IllegalStateException.class, () -> stack.addCue(50));
        Checks.dueThrow("out of range comes first", BAD, () -> stack.addCue(0));
        Checks.dueThrow("used comes first", BAD, () -> stack.addCue(12));
        Checks.due("count", stack.account(0), 12);
        Checks.due("undo", stack.undo(), 5);
        Checks.due("count", stack.account(0), 11);
        Checks.due("addCue(50)", stack.addCue(50), 12);
    }

    static void promise03IsNew() {
        CueStack stack = Stacks.withCues(1, 2);
        for (int part = 0; part < 4; part++) {
            stack.setPart(2, part, true, 5);
            stack.setPart(2, part, false, 6);
        }
        stack.setFollow(2, 7);
        stack.setBlock(2, true);
        stack.set(2, 0, 8, 2, false);
        stack.removeCue(2, false);
        stack.addCue(2);
        dueNew(stack, 2);
        stack.setProtected(2, true);
        stack.undo();
        stack.undo();
        stack.addCue(2);
        dueNew(stack, 2);
        stack.setProtected(2, true);
        stack.clear();
        stack.addCue(3);
        stack.addCue(4);
        dueNew(stack, 3);
        dueNew(stack, 4);
    }

    private static void dueNew(CueStack stack, int cue) {
        Checks.due("follow", stack.cue(cue, 1), -1);
        for (int what = 2; what <= 6; what++) {
            Checks.due("cue " + what, stack.cue(cue, what), 0);
        }
        for (int part = 0; part < 4; part++) {
            Checks.due("delay", stack.part(cue, part, true), 0);
            Checks.due("time", stack.part(cue, part, false), 0);
        }
    }

    static void promise03CueBetweenTracks() {
        CueStack stack = Stacks.withCues(10, 30);
        stack.set(10, 2, 40, 0, false);
        stack.addCue(20);
        Checks.due("level", stack.level(20, 2), 40);
        Checks.due("level", stack.level(30, 2), 40);
        stack.addCue(5);
        Checks.due("level", stack.level(5, 2), 0);
        Checks.due("level", stack.level(10, 2), 40);
    }

    static void promise04RemoveCue() {
        CueStack stack = Stacks.withCues(1, 2, 3);
        Checks.dueThrow("no such cue", NO_INDEX, () -> stack.removeCue(4, false));
        Checks.dueThrow("no such cue", NO_INDEX, () -> stack.removeCue(0, true));
        stack.set(1, 0, 10, 0, false);
        stack.set(2, 1, 20, 0, false);
        stack.set(2, 0, 30, 0, false);
        stack.release(3, 1, 2, false);
        Checks.due("removeCue", stack.removeCue(2, false), 2);
        Checks.due("level", stack.level(3, 0), 10);
        Checks.due("level", stack.level(3, 1), 0);
        Checks.due("instructions", stack.account(1), 2);
        Checks.due("instruction", stack.instruction(1, 0), 3);
        Checks.due("instruction", stack.instruction(1, 3), 2);
        Checks.due("cues", stack.account(0), 2);
        Checks.due("removeCue", stack.removeCue(3, true), 1);
        Checks.due("removeCue", stack.removeCue(1, true), 1);
        Checks.due("cues", stack.account(0), 0);
        Checks.dueThrow("removed", NO_INDEX, () -> stack.removeCue(1, false));
        stack.addCue(2);
        Checks.due("a new cue of the number", stack.cue(2, 4), 0);
    }

    static void promise04RemoveIsHeld() {
        CueStack stack = Stacks.withCues(1, 2, 3);
        stack.set(1, 0, 10, 0, false);
        stack.set(2, 5, 50, 3, false);
        stack.set(2, 0, 20, 0, false);
        stack.set(2, 3, 30, 0, false);
        stack.set(3, 3, 31, 1, false);
        Checks.due("removeCue", stack.removeCue(2, true), 3);
        Checks.due("instructions", stack.account(1), 4);
        int[][] due = {{1, 0, 10, 0}, {3, 3, 31, 1}, {3, 0, 20, 0}, {3, 5, 50, 0}};
        for (int index = 0; index < due.length; index++) {
            for (int what = 0; what < 4; what++) {
                Checks.due("instruction " + index + " " + what, stack.instruction(index, what),
                    due[index][what]);
            }
        }
    }

    static void promise04RemoveHeldBesideBlocks() {
        CueStack stack = Stacks.withCues(1, 2, 3);
        stack.set(1, 0, 10, 0, false);
        stack.set(1, 1, 11, 0, false);
        stack.setBlock(2, true);
        stack.setHome(1, 5);
        Checks.due("a block goes", stack.removeCue(2, true), 0);
        Checks.due("held", stack.level(3, 0), 0);
        Checks.due("held", stack.level(3, 1), 5);
        Checks.due("held with a level", stack.instruction(2, 2), 0);
        Checks.due("held with a level", stack.instruction(3, 2), 5);
        CueStack behind = Stacks.withCues(1, 2, 3);
        behind.set(2, 0, 10, 0, false);
        behind.setBlock(3, true);
        behind.setProtected(3, true);
        Checks.due("a block does not hold", behind.removeCue(2, true), 1);
        Checks.due("none", behind.account(1), 0);
    }

    static void promise04RemoveFirstHeld() {
        CueStack stack = Stacks.withCues(1, 2);
        stack.setHome(4, 40);
        stack.set(1, 4, 40, 0, false);
        stack.set(1, 2, 20, 1, false);
        stack.release(1, 3, 1, false);
        Checks.due("removeCue", stack.removeCue(1, true), 3);
        Checks.due("only what is not home is held", stack.account(1), 1);
        Checks.due("channel", stack.instruction(0, 1), 2);
        Checks.due("part", stack.instruction(0, 3), 0);
    }

    static void promise04Refused() {
        CueStack stack = Stacks.withCues(1, 2, 3);
        stack.set(2, 0, 10, 0, false);
        stack.setProtected(2, true);
        Checks.dueThrow("protected", REFUSED, () -> stack.removeCue(2, false));
        Checks.due("reason", stack.reason(), 1);
        stack.setProtected(2, false);
        stack.setProtected(3, true);
        Checks.dueThrow("the next is protected", REFUSED, () -> stack.removeCue(2, true));
        Checks.due("still there", stack.level(2, 0), 10);
        Checks.due("not hindered", stack.removeCue(1, true), 0);
        stack.set(2, 0, 0, 0, false);
        Checks.due("nothing to hold", stack.removeCue(2, true), 1);
    }

    static void promise04RefusedFull() {
        CueStack stack = Stacks.withCues(1, 2, 3, 4, 5, 6, 7);
        for (int cue = 1; cue <= 5; cue++) {
            for (int channel = 0; channel < 12; channel++) {
                if (cue != 5 || channel > 0) {
                    stack.set(cue, channel, 10, 0, false);
                }
            }
        }
        stack.setBlock(6, true);
        stack.set(7, 0, 4, 0, false);
        Checks.due("instructions", stack.account(1), 60);
        Checks.dueThrow("no room to hold 11", REFUSED, () -> stack.removeCue(6, true));
        Checks.due("reason", stack.reason(), 2);
        Checks.due("all as it was", stack.account(1), 60);
        Checks.due("undo", stack.undo(), 5);
        Checks.due("the next is a block", stack.removeCue(5, true), 11);
        Checks.due("instructions", stack.account(1), 48);
        stack.setProtected(7, true);
        Checks.dueThrow("the first reason", REFUSED, () -> stack.removeCue(6, true));
        Checks.due("reason", stack.reason(), 1);
        stack.setProtected(7, false);
        Checks.due("removeCue", stack.removeCue(6, true), 0);
        Checks.due("instructions", stack.account(1), 60);
    }

    static void promise05CueAt() {
        CueStack stack = Stacks.withCues(50, 7, 99, 1, 23);
        int[] due = {1, 7, 23, 50, 99};
        for (int index = 0; index < due.length; index++) {
            Checks.due("cueAt", stack.cueAt(index), due[index]);
        }
        Checks.dueThrow("cueAt(5)", NoSuchElementException.class, () -> stack.cueAt(5));
        Checks.dueThrow("cueAt(-1)", NoSuchElementException.class, () -> stack.cueAt(-1));
        Checks.dueThrow("most", NoSuchElementException.class,
            () -> stack.cueAt(Integer.MAX_VALUE));
        stack.removeCue(7, false);
        Checks.due("cueAt", stack.cueAt(1), 23);
        Checks.dueThrow("cueAt(4)", NoSuchElementException.class, () -> stack.cueAt(4));
        stack.addCue(3);
        Checks.due("cueAt", stack.cueAt(1), 3);
        Checks.due("cueAt", stack.cueAt(4), 99);
    }

    static void promise06SetFollow() {
        CueStack stack = Stacks.withCues(1, 2);
        Checks.due("setFollow", stack.setFollow(1, 6000), -1);
        Checks.due("setFollow", stack.setFollow(1, 1), 6000);
        Checks.dueThrow("0", BAD, () -> stack.setFollow(1, 0));
        Checks.dueThrow("6001", BAD, () -> stack.setFollow(1, 6001));
        Checks.dueThrow("-2", BAD, () -> stack.setFollow(1, -2));
        Checks.dueThrow("no cue comes first", NO_INDEX, () -> stack.setFollow(3, 0));
        Checks.due("follow", stack.cue(1, 1), 1);
        Checks.due("none", stack.setFollow(1, -1), 1);
        Checks.due("none", stack.setFollow(1, -1), -1);
        stack.setProtected(2, true);
        Checks.due("of a protected cue", stack.setFollow(2, 7), -1);
    }

    static void promise07SetBlock() {
        CueStack stack = Stacks.withCues(1, 2, 3);
        stack.set(1, 0, 10, 0, false);
        stack.set(1, 1, 11, 0, false);
        stack.set(1, 2, 12, 0, false);
        stack.set(2, 2, 22, 0, false);
        stack.setHome(1, 11);
        Checks.due("setBlock", stack.setBlock(2, true), 1);
        Checks.due("level", stack.level(2, 0), 0);
        Checks.due("level", stack.level(3, 0), 0);
        Checks.due("level", stack.level(2, 1), 11);
        Checks.due("level", stack.level(2, 2), 22);
        Checks.due("setBlock again", stack.setBlock(2, true), 0);
        Checks.due("account", stack.account(9), 1);
        stack.setHome(1, 9);
        Checks.due("back", stack.setBlock(2, false), 2);
        Checks.due("level", stack.level(3, 0), 10);
        Checks.due("back again", stack.setBlock(2, false), 0);
        Checks.due("the first one", stack.setBlock(1, true), 0);
        stack.setProtected(3, true);
        Checks.due("a protected one", stack.setBlock(3, true), 3);
        Checks.dueThrow("no such cue", NO_INDEX, () -> stack.setBlock(4, true));
    }

    static void promise08SetProtected() {
        CueStack stack = Stacks.withCues(1);
        Checks.due("was", stack.setProtected(1, true), false);
        Checks.due("was", stack.setProtected(1, true), true);
        Checks.dueThrow("set", REFUSED, () -> stack.set(1, 0, 1, 0, false));
        Checks.dueThrow("release", REFUSED, () -> stack.release(1, 0, 0, false));
        Checks.due("was", stack.setProtected(1, false), true);
        Checks.due("was", stack.setProtected(1, false), false);
        Checks.due("set", stack.set(1, 0, 1, 0, false), 1);
        Checks.dueThrow("no such cue", NO_INDEX, () -> stack.setProtected(2, true) ? 1 : 0);
    }

    static void promise09SetPart() {
        CueStack stack = Stacks.withCues(4, 5);
        for (int part = 0; part < 4; part++) {
            Checks.due("delay", stack.setPart(4, part, true, part + 1), 0);
            Checks.due("time", stack.setPart(4, part, false, 600 - part), 0);
        }
        for (int part = 0; part < 4; part++) {
            Checks.due("delay", stack.setPart(4, part, true, 600), part + 1);
            Checks.due("time", stack.setPart(4, part, false, 0), 600 - part);
            Checks.due("of another cue", stack.part(5, part, true), 0);
        }
        stack.setProtected(4, true);
        Checks.due("of a protected cue", stack.setPart(4, 0, true, 3), 600);
        Checks.dueThrow("no such cue", NO_INDEX, () -> stack.setPart(6, 0, true, 0));
        Checks.dueThrow("no such part", NO_INDEX, () -> stack.setPart(4, 4, true, 0));
        Checks.dueThrow("no such part", NO_INDEX, () -> stack.setPart(4, -1, true, 601));
        Checks.dueThrow("601", BAD, () -> stack.setPart(4, 0, true, 601));
        Checks.dueThrow("-1", BAD, () -> stack.setPart(4, 0, false, -1));
        Checks.due("unchanged", stack.part(4, 0, true), 3);
    }

    static void promise10Cue() {
        CueStack stack = Stacks.withCues(10, 20, 30);
        stack.setFollow(20, 44);
        stack.setBlock(20, true);
        stack.setProtected(30, true);
        stack.set(20, 11, 5, 3, false);
        stack.release(20, 0, 1, false);
        Checks.due("index", stack.cue(10, 0), 0);
        Checks.due("index", stack.cue(30, 0), 2);
        Checks.due("follow", stack.cue(20, 1), 44);
        Checks.due("follow", stack.cue(10, 1), -1);
        Checks.due("block", stack.cue(20, 2), 1);
        Checks.due("block", stack.cue(30, 2), 0);
        Checks.due("protected", stack.cue(20, 3), 0);
        Checks.due("protected", stack.cue(30, 3), 1);
        Checks.due("instructions", stack.cue(20, 4), 2);
        Checks.due("instructions", stack.cue(30, 4), 0);
        Checks.dueThrow("no such cue", NO_INDEX, () -> stack.cue(11, 0));
        Checks.dueThrow("no cue comes first", NO_INDEX, () -> stack.cue(11, 7));
        Checks.dueThrow("what 7", BAD, () -> stack.cue(10, 7));
        Checks.dueThrow("what -1", BAD, () -> stack.cue(10, -1));
    }

    static void promise10CueMoves() {
        CueStack stack = Stacks.withCues(1, 2, 3);
        stack.setHome(0, 10);
        Checks.due("none", stack.cue(1, 5), 0);
        Checks.due("no length", stack.cue(1, 6), 0);
        stack.set(1, 0, 10, 0, false);
        Checks.due("home in the first", stack.cue(1, 5), 0);
        stack.set(1, 11, 20, 2, false);
        stack.set(1, 5, 50, 0, false);
        Checks.due("moving", stack.cue(1, 5), (1 << 11) | (1 << 5));
        stack.setBlock(3, true);
        Checks.due("a block moves", stack.cue(3, 5), (1 << 11) | (1 << 5));
        Checks.due("tracked", stack.cue(2, 5), 0);
        stack.setPart(1, 0, true, 3);
        stack.setPart(1, 0, false, 4);
        stack.setPart(1, 2, true, 5);
        stack.setPart(1, 1, true, 600);
        Checks.due("length", stack.cue(1, 6), 7);
        stack.setPart(1, 2, false, 5);
        Checks.due("length", stack.cue(1, 6), 10);
        stack.setPart(3, 0, false, 600);
        stack.setPart(3, 0, true, 600);
        Checks.due("length of part 0", stack.cue(3, 6), 1200);
        stack.setPart(2, 0, false, 600);
        Checks.due("none moves", stack.cue(2, 6), 0);
        stack.set(1, 0, 11, 1, false);
        Checks.due("channel 0 is the longest", stack.cue(1, 6), 600);
    }

    static void promise11Part() {
        CueStack stack = Stacks.withCues(1);
        stack.setPart(1, 3, true, 9);
        stack.setPart(1, 3, false, 8);
        Checks.due("delay", stack.part(1, 3, true), 9);
        Checks.due("time", stack.part(1, 3, false), 8);
        Checks.due("another", stack.part(1, 2, true), 0);
        Checks.dueThrow("no such part", NO_INDEX, () -> stack.part(1, 4, true));
        Checks.dueThrow("no such part", NO_INDEX, () -> stack.part(1, -1, false));
        Checks.dueThrow("no such cue", NO_INDEX, () -> stack.part(2, 0, true));
    }
}
