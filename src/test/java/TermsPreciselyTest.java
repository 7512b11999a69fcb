/** What "Terms" tells more precisely. */
final class TermsPreciselyTest {
    public static void main(String[] args) throws IllegalAccessException {
        Checks.runAll(TermsPreciselyTest.class);
    }

    @Says(promise = 0, value = "An instruction that is given anew keeps its place in the list, also "
        + "when there are 60.")
    static void anewKeepsItsPlaceAt60() {
        CueStack stack = Stacks.full();
        Checks.due("first", stack.set(1, 0, 100, 3, false), 1);
        Checks.due("last", stack.release(5, 11, 2, false), 3);
        Checks.due("middle", stack.set(3, 6, 99, 1, true), 1);
        Checks.due("instructions", stack.account(1), 60);
        Bounds.dueInstruction(stack, 0, 1, 0, 100, 3);
        Bounds.dueInstruction(stack, 30, 3, 6, 99, 1);
        Bounds.dueInstruction(stack, 59, 5, 11, -1, 2);
        Bounds.dueRead(stack, "s1/0@1;r3/6;s5/11@0;", 3);
        Bounds.dueInstruction(stack, 0, 1, 0, 1, 0);
        Bounds.dueInstruction(stack, 30, 3, 6, -1, 0);
        Bounds.dueInstruction(stack, 59, 5, 11, 0, 0);
        Bounds.dueThrow(stack, "no 61st", Bounds.NONE, () -> stack.instruction(60, 0));
    }

    @Says(promise = 0, value = "The source of a level can be the cue itself.")
    static void theSourceCanBeTheCueItself() {
        CueStack stack = Stacks.withCues(1, 2, 3, 4);
        stack.set(2, 0, 0, 0, false);
        stack.release(3, 0, 0, false);
        stack.setBlock(4, true);
        Bounds.dueSources(stack, 0, 1, 2, 3, 4);
        Bounds.dueSources(stack, 1, 1, 1, 1, 4);
    }

    @Says(promise = 0, value = "Whether a level would be changed is looked at behind the "
        + "instruction itself and ahead of any that hold")
    static void changesAreLookedAtBehindTheInstruction() {
        CueStack stack = Stacks.withCues(1, 2, 3);
        stack.set(1, 0, 40, 0, false);
        stack.setProtected(2, true);
        Checks.due("the same level by another part", stack.set(1, 0, 40, 3, true), 0);
        stack.setHome(0, 40);
        Checks.due("the same level by a release", stack.release(1, 0, 1, true), 0);
        Checks.due("the same level without it", stack.unset(1, 0, true), 0);
        stack.set(1, 1, 70, 0, false);
        stack.setProtected(2, false);
        stack.setProtected(3, true);
        Checks.due("nothing behind the next one is held", stack.set(1, 1, 80, 0, true), 1);
        Checks.due("by what the next one got", stack.level(3, 1), 70);
        Bounds.dueList(stack, new int[] {1, 1, 80, 0}, new int[] {2, 1, 70, 0});
    }

    @Says(promise = 0, value = "what holds is a level, also if that came from a release")
    static void whatHoldsIsALevel() {
        CueStack stack = Stacks.withCues(1, 2, 3);
        stack.setHome(0, 25);
        stack.release(1, 0, 2, false);
        stack.set(1, 0, 90, 1, true);
        Bounds.dueList(stack, new int[] {1, 0, 90, 1}, new int[] {2, 0, 25, 0});
        stack.release(2, 0, 3, false);
        stack.removeCue(2, true);
        Bounds.dueList(stack, new int[] {1, 0, 90, 1}, new int[] {3, 0, 25, 0});
        stack.release(1, 0, 3, false);
        stack.setHome(0, 26);
        Checks.due("it stays when the home level does not", stack.level(3, 0), 25);
        Checks.due("releases", stack.account(10), 1);
        stack.addCue(4);
        stack.release(3, 0, 0, false);
        stack.set(1, 0, 90, 0, false);
        stack.unset(3, 0, true);
        Bounds.dueInstruction(stack, 1, 4, 0, 26, 0);
    }

    @Says(promise = 0, value = "The number of instructions is counted behind what comes and goes.")
    static void instructionsAreCountedBehind() {
        CueStack stack = Stacks.full();
        Checks.due("one goes, one comes", stack.unset(5, 0, true), 1);
        Checks.due("instructions", stack.account(1), 60);
        stack.undo();
        Checks.due("12 go, 12 come", stack.removeCue(5, true), 12);
        Checks.due("instructions", stack.account(1), 60);
        Checks.due("the next cue got all", stack.cue(6, 4), 12);
        Checks.due("12 go, none comes", stack.removeCue(4, true), 12);
        Checks.due("instructions", stack.account(1), 48);
        CueStack mixed = Stacks.full();
        mixed.setBlock(6, true);
        mixed.unset(1, 0, false);
        mixed.set(6, 0, 5, 0, false);
        Bounds.dueRefused(mixed, "1 goes, 11 come", 2, () -> mixed.removeCue(6, true));
        for (int channel = 1; channel <= 9; channel++) {
            mixed.unset(1, channel, false);
        }
        Checks.due("instructions", mixed.account(1), 51);
        Bounds.dueRefused(mixed, "61 behind it", 2, () -> mixed.removeCue(6, true));
        mixed.unset(1, 10, false);
        Checks.due("60 behind it", mixed.removeCue(6, true), 1);
        Checks.due("instructions", mixed.account(1), 60);
    }

    @Says(promise = 0,
        value = "A next cue that is protected hinders only if it would get an instruction.")
    static void aProtectedNextCueHindersOnlyIfItHolds() {
        CueStack stack = Stacks.withCues(1, 2, 3);
        stack.setProtected(2, true);
        Checks.due("not held", stack.set(1, 0, 50, 0, false), 3);
        Checks.due("not held", stack.release(1, 0, 0, false), 3);
        Checks.due("not held", stack.unset(1, 0, false), 0);
        Checks.due("no change", stack.set(1, 0, 0, 0, true), 0);
        Checks.due("no change", stack.release(1, 0, 0, true), 0);
        Checks.due("no change", stack.unset(1, 0, true), 0);
        Bounds.dueRefused(stack, "a change", 1, () -> stack.set(1, 0, 50, 0, true));
        stack.setProtected(2, false);
        stack.set(2, 0, 9, 0, false);
        stack.setProtected(2, true);
        Checks.due("it has one", stack.set(1, 0, 50, 0, true), 1);
        Checks.due("it has one", stack.release(1, 0, 0, true), 1);
        stack.set(1, 0, 50, 0, true);
        Checks.due("it has one", stack.unset(1, 0, true), 1);
        stack.setBlock(2, true);
        Checks.due("a block", stack.set(1, 1, 50, 0, true), 1);
        Checks.due("a block", stack.unset(1, 1, true), 1);
        Checks.due("a block", stack.removeCue(1, true), 0);
    }

    @Says(promise = 0, value = "What set, release and unset tell is by the end result.")
    static void whatIsToldIsByTheEndResult() {
        CueStack stack = Stacks.allCues();
        Checks.due("all", stack.set(1, 0, 50, 0, false), 12);
        Checks.due("held: the cue alone", stack.set(1, 0, 60, 0, true), 1);
        Checks.due("the others are behind", stack.level(12, 0), 50);
        Checks.due("up to the next instruction", stack.release(1, 0, 0, false), 1);
        Checks.due("back to the level of the cue before", stack.unset(2, 0, false), 11);
        Checks.due("none", stack.release(1, 0, 0, true), 0);
        stack.set(6, 0, 70, 0, false);
        Checks.due("held", stack.unset(6, 0, true), 1);
        Checks.due("held by cue 7", stack.level(12, 0), 70);
        stack.setBlock(9, true);
        Checks.due("up to the block", stack.unset(7, 0, false), 2);
        Checks.due("the cue itself", stack.set(12, 0, 1, 0, true), 1);
    }

    @Says(promise = 0, value = "Protected cues can become blocks, and get other follow times, "
        + "parts, and neighbours.")
    static void protectedCuesCanBecomeOther() {
        CueStack stack = Stacks.withCues(1, 3, 5);
        stack.set(1, 0, 50, 0, false);
        stack.setProtected(3, true);
        Checks.due("a block", stack.setBlock(3, true), 1);
        Checks.due("no block", stack.setBlock(3, false), 1);
        Checks.due("follow time", stack.setFollow(3, 6000), -1);
        Checks.due("none", stack.setFollow(3, -1), 6000);
        Checks.due("delay", stack.setPart(3, 3, true, 600), 0);
        Checks.due("time", stack.setPart(3, 0, false, 600), 0);
        Checks.due("a neighbour ahead", stack.addCue(2), 4);
        Checks.due("a neighbour behind", stack.addCue(4), 5);
        Checks.due("set ahead", stack.set(2, 0, 20, 0, false), 4);
        Checks.due("its level", stack.level(3, 0), 20);
        Checks.due("a neighbour goes", stack.removeCue(2, false), 1);
        Checks.due("a neighbour goes", stack.removeCue(4, true), 0);
        Checks.due("the home level", stack.setHome(0, 9), 0);
        Checks.due("its neighbour goes", stack.removeCue(1, false), 1);
        Checks.due("its level", stack.level(3, 0), 9);
        Checks.due("it is still protected", stack.cue(3, 3), 1);
    }

    @Says(promise = 0, value = "When a cue goes, channels without an instruction in it use its "
        + "part 0, not one of the source.")
    static void part0OfTheCueNotOfTheSource() {
        CueStack stack = Stacks.withCues(1, 2, 3);
        stack.set(1, 0, 100, 1, false);
        stack.setPart(1, 1, false, 600);
        stack.setPart(2, 0, true, 2);
        stack.setPart(2, 0, false, 4);
        stack.setPart(2, 1, false, 300);
        Checks.due("source", stack.source(2, 0), 1);
        stack.jump(2);
        Bounds.dueNow(stack, 0, 0, 0, 0, 25, 50, 75, 100);
        stack.setBlock(3, true);
        stack.jump(3);
        Checks.due("part 0 of cue 3", stack.now(0), 0);
    }

    @Says(promise = 0, value = "Fades without delay and time are never going on")
    static void fadesWithoutTimeAreNeverGoingOn() {
        CueStack stack = Stacks.withCues(1);
        for (int channel = 0; channel < 12; channel++) {
            stack.set(1, channel, 100, 3, false);
        }
        stack.setPart(1, 0, true, 600);
        Checks.due("all begin", stack.jump(1), 12);
        Checks.due("none fades", stack.playing(3), 0);
        Checks.due("none fades", stack.account(4), 0);
        Checks.due("all are there", stack.account(2), 1200);
    }

    @Says(promise = 0, value = "and a fade to a level that is there already is")
    static void aFadeToALevelThatIsThereGoesOn() {
        CueStack stack = Stacks.withCues(1, 2);
        stack.set(1, 0, 100, 0, false);
        stack.setPart(1, 0, false, 10);
        stack.set(2, 0, 50, 0, false);
        stack.setPart(2, 0, true, 2);
        stack.setPart(2, 0, false, 3);
        stack.go();
        stack.pass(5);
        Checks.due("there already", stack.now(0), 50);
        Checks.due("it begins", stack.jump(2), 1);
        for (int tenth = 0; tenth < 5; tenth++) {
            Checks.due("fading", stack.playing(3), 1);
            Checks.due("now", stack.now(0), 50);
            stack.pass(1);
        }
        Checks.due("over", stack.playing(3), 0);
        Checks.due("now", stack.now(0), 50);
    }

    @Says(promise = 0, value = "In a tenth at most one cue goes, of which no tenth has passed then.")
    static void inATenthAtMostOneCueGoes() {
        CueStack stack = Stacks.allCues();
        for (int cue = 1; cue <= 12; cue++) {
            stack.setFollow(cue, 1);
        }
        stack.go();
        for (int tenth = 1; tenth <= 11; tenth++) {
            Checks.due("one", stack.pass(1), 1);
            Checks.due("last", stack.playing(0), tenth + 1);
            Checks.due("no tenth", stack.playing(1), 0);
        }
        Checks.due("none is left", stack.pass(1), 0);
        Checks.due("since", stack.playing(1), 1);
        stack.jump(1);
        Checks.due("five in five", stack.pass(5), 5);
        Checks.due("the other six", stack.pass(6000), 6);
        Checks.due("since", stack.playing(1), 5994);
    }

    @Says(promise = 0, value = "The tenths since a cue went go on if it was removed.")
    static void theTenthsGoOnIfItWasRemoved() {
        CueStack stack = Stacks.withCues(1);
        stack.jump(1);
        stack.pass(3);
        stack.removeCue(1, false);
        Checks.due("since", stack.playing(1), 3);
        stack.pass(6000);
        Checks.due("since", stack.playing(1), 6003);
        Checks.due("last", stack.playing(0), 1);
        stack.addCue(2);
        stack.go();
        Checks.due("since", stack.playing(1), 0);
    }

    @Says(promise = 0, value = "A chain does not have the follow time of its last cue.")
    static void aChainIsWithoutTheLastFollowTime() {
        CueStack stack = Stacks.allCues();
        for (int cue = 1; cue <= 12; cue++) {
            stack.setFollow(cue, 6000);
            Checks.due("the last cue so far", stack.chain(12), 0);
        }
        Checks.due("11 times", stack.chain(1), 66000);
        Checks.due("once", stack.chain(11), 6000);
        stack.removeCue(12, false);
        Checks.due("now the last one", stack.chain(11), 0);
        Checks.due("10 times", stack.chain(1), 60000);
    }

    @Says(promise = 0, value = "Home levels change levels in cues, not targets.")
    static void homeLevelsChangeNoTargets() {
        CueStack stack = Stacks.withCues(1);
        stack.setPart(1, 0, false, 10);
        stack.setHome(0, 100);
        stack.go();
        stack.pass(5);
        stack.setHome(0, 0);
        Checks.due("level", stack.level(1, 0), 0);
        Checks.due("target", stack.target(0), 100);
        Bounds.dueNow(stack, 0, 50, 60, 70);
        stack.pass(6000);
        Checks.due("target", stack.target(0), 100);
        Checks.due("jump", stack.jump(1), 1);
        Checks.due("target", stack.target(0), 0);
    }

    @Says(promise = 0, value = "Whether more than 100000 tenths would have passed is looked at "
        + "ahead of all.")
    static void theEndOfTimeIsLookedAtAheadOfAll() {
        CueStack stack = Stacks.atTheEndOfTime(1, 2);
        stack.undo();
        stack.pass(3998);
        stack.setFollow(1, 1);
        stack.set(1, 0, 100, 0, false);
        stack.setPart(1, 0, false, 10);
        stack.go();
        Bounds.dueThrow(stack, "nothing passes", Bounds.STATE, () -> stack.pass(3));
        Bounds.dueThrow(stack, "nothing passes", Bounds.STATE, () -> stack.pass(6000));
        Checks.due("passed", stack.account(6), 99998);
        Checks.due("last", stack.playing(0), 1);
        Checks.due("all that is left", stack.pass(2), 1);
        Checks.due("passed", stack.account(6), 100000);
        Bounds.dueThrow(stack, "nothing passes", Bounds.STATE, () -> stack.pass(1));
        Checks.due("no tenth can pass", stack.pass(0), 0);
        stack.clear();
        Checks.due("a new time", stack.pass(6000), 0);
    }

    @Says(promise = 0, value = "In a text, cues, channels, levels and tenths that there are not or "
        + "that are out of range are right, and cannot be done.")
    static void whatIsOutOfRangeInATextIsRight() {
        CueStack stack = Stacks.withCues(1, 2);
        for (String text : new String[] {"c0;", "c00;", "c1;", "x3;", "x0;", "x99;", "s3/0@0;",
                "s0/0@0;", "s1/12@0;", "s1/99@0;", "s1/0@101;", "s1/0@999;", "r3/0;", "r0/0;",
                "r1/12;", "r1/99;", "j3;", "j0;", "j00;", "j99;", "t6001;", "t9999;"}) {
            Bounds.dueNotDone(stack, text);
            Bounds.dueNotDone(stack, "g;t1;c5;" + text);
            Bounds.dueNotDone(stack, text + "g;");
        }
        Bounds.dueError(stack, "x3;?", 3);
        Checks.due("nothing went", stack.account(5), 0);
    }
}
