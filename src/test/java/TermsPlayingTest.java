/** The boundaries that "Terms" names of playing and of refusals. */
final class TermsPlayingTest {
    public static void main(String[] args) throws IllegalAccessException {
        Checks.runAll(TermsPlayingTest.class);
    }

    /** One cue, 1, which brings channel 0 to this level by part 0. */
    private static CueStack fade(int level, int delay, int time) {
        CueStack stack = Stacks.withCues(1);
        stack.set(1, 0, level, 0, false);
        stack.setPart(1, 0, true, delay);
        stack.setPart(1, 0, false, time);
        return stack;
    }

    // ---- Playing

    @Says(promise = 0, value = "At first no cue has gone, the target of each channel is its home "
        + "level of a new object, 0, and no time has passed.")
    static void atFirstNothingHasGone() {
        CueStack stack = Stacks.withCues(1, 2);
        for (int channel = 0; channel < 12; channel++) {
            stack.setHome(channel, 100);
            Checks.due("target", stack.target(channel), 0);
            Checks.due("now", stack.now(channel), 0);
        }
        Checks.due("last", stack.playing(0), 0);
        Checks.due("since", stack.playing(1), 0);
        Checks.due("fading", stack.playing(3), 0);
        Checks.due("went", stack.account(5), 0);
        Checks.due("passed", stack.account(6), 0);
        stack.pass(6000);
        Checks.due("no tenths since none", stack.playing(1), 0);
        Checks.due("target", stack.target(11), 0);
        Checks.due("all fade to their homes", stack.jump(2), 12);
    }

    @Says(promise = 0, value = "each channel of which the level in this cue is not its target "
        + "begins a fade")
    static void onlyAnotherTargetBeginsAFade() {
        CueStack stack = Stacks.withCues(1, 2, 3, 4);
        stack.set(1, 0, 100, 0, false);
        stack.setPart(1, 0, false, 10);
        stack.setPart(2, 1, false, 600);
        stack.set(2, 0, 100, 1, false);
        stack.set(3, 0, 60, 2, false);
        stack.setPart(3, 2, true, 2);
        Checks.due("one", stack.jump(1), 1);
        stack.pass(5);
        Checks.due("the target is that level", stack.jump(2), 0);
        stack.pass(1);
        Checks.due("the fade goes on", stack.now(0), 60);
        Checks.due("the present level is that level", stack.jump(3), 1);
        Checks.due("fading", stack.playing(3), 1);
        Checks.due("target", stack.target(0), 60);
        for (int channel = 0; channel < 12; channel++) {
            stack.set(4, channel, 1, 0, false);
        }
        Checks.due("all", stack.jump(4), 12);
        Checks.due("none", stack.jump(4), 0);
    }

    @Says(promise = 0, value = "it begins at the present level and has that level as its target")
    static void fadesBeginAtThePresentLevel() {
        CueStack stack = fade(100, 4, 10);
        stack.addCue(2);
        stack.setBlock(2, true);
        stack.setPart(2, 0, false, 10);
        stack.go();
        stack.pass(3);
        stack.go();
        Bounds.dueNow(stack, 0, 0, 0, 0);
        stack.back();
        Bounds.dueNow(stack, 0, 0, 0, 0, 0, 0, 10, 20, 30);
        Checks.due("go", stack.go(), 2);
        Checks.due("target", stack.target(0), 0);
        Bounds.dueNow(stack, 0, 30, 27, 24);
        Checks.due("back", stack.back(), 1);
        Bounds.dueNow(stack, 0, 24, 24, 24, 24, 24, 31, 39);
        stack.pass(7);
        Checks.due("one tenth ahead of the end", stack.now(0), 92);
        stack.pass(1);
        Checks.due("the end", stack.now(0), 100);
        stack.go();
        Bounds.dueNow(stack, 0, 100, 90);
    }

    @Says(promise = 0, value = "or of part 0 if there is none")
    static void part0WithoutAnInstruction() {
        CueStack stack = Stacks.withCues(1, 2, 3);
        stack.set(2, 0, 50, 3, false);
        stack.setPart(2, 3, false, 600);
        stack.setPart(3, 0, false, 10);
        stack.setPart(3, 3, false, 300);
        stack.jump(3);
        Bounds.dueNow(stack, 0, 0, 5, 10);
        stack.jump(2);
        Bounds.dueNow(stack, 0, 10, 15, 20);
        stack.jump(1);
        Checks.due("part 0 of cue 1 takes no time", stack.now(0), 0);
        stack.jump(2);
        Bounds.dueNow(stack, 0, 0, 0);
        Checks.due("part 3 of cue 2", stack.playing(3), 1);
    }

    @Says(promise = 0, value = "All other channels go on as they were.")
    static void otherChannelsGoOn() {
        CueStack stack = fade(100, 5, 10);
        stack.addCue(2);
        stack.set(2, 1, 40, 0, false);
        stack.setPart(2, 0, false, 4);
        stack.go();
        stack.pass(4);
        Checks.due("one begins", stack.jump(2), 1);
        Bounds.dueNow(stack, 0, 0, 0, 10, 20, 30);
        Checks.due("the other one is there", stack.now(1), 40);
        Checks.due("again", stack.jump(2), 0);
        Bounds.dueNow(stack, 0, 30, 40, 50, 60, 70, 80, 90, 100);
    }

    @Says(promise = 0, value = "is the target if e is at least the delay plus the time")
    static void theTargetIsReachedBehindDelayAndTime() {
        CueStack longest = fade(100, 600, 600);
        longest.go();
        longest.pass(1199);
        Checks.due("one tenth ahead", longest.now(0), 99);
        longest.pass(1);
        Checks.due("then", longest.now(0), 100);
        longest.pass(6000);
        Checks.due("and it stays", longest.now(0), 100);
        CueStack delayed = fade(100, 600, 0);
        delayed.go();
        delayed.pass(599);
        Checks.due("one tenth ahead", delayed.now(0), 0);
        delayed.pass(1);
        Checks.due("then", delayed.now(0), 100);
        CueStack shortest = fade(100, 0, 1);
        shortest.go();
        Bounds.dueNow(shortest, 0, 0, 100, 100);
    }

    @Says(promise = 0, value = "also at once if both are 0")
    static void theTargetIsReachedAtOnce() {
        CueStack stack = fade(100, 0, 0);
        stack.go();
        Checks.due("at once", stack.now(0), 100);
        Checks.due("target", stack.target(0), 100);
        stack.set(1, 0, 3, 0, false);
        stack.jump(1);
        Checks.due("at once", stack.now(0), 3);
        stack.pass(1);
        Checks.due("and it stays", stack.now(0), 3);
    }

    @Says(promise = 0,
        value = "otherwise it is where the fade began as long as e is at most the delay")
    static void theFadeWaitsForTheDelay() {
        CueStack stack = fade(100, 600, 100);
        stack.set(1, 0, 40, 1, false);
        stack.go();
        stack.set(1, 0, 100, 0, false);
        stack.jump(1);
        Checks.due("at 0", stack.now(0), 40);
        stack.pass(600);
        Checks.due("at the delay", stack.now(0), 40);
        stack.pass(5);
        Checks.due("behind it", stack.now(0), 43);
        CueStack one = fade(80, 1, 4);
        one.go();
        Bounds.dueNow(one, 0, 0, 0, 20, 40, 60, 80);
    }

    @Says(promise = 0, value = "with this quotient rounded towards 0")
    static void theQuotientIsRoundedTowards0() {
        CueStack stack = fade(10, 0, 3);
        stack.go();
        Bounds.dueNow(stack, 0, 0, 3, 6, 10);
        stack.set(1, 0, 0, 0, false);
        stack.jump(1);
        Bounds.dueNow(stack, 0, 10, 7, 4, 0);
        stack.setPart(1, 0, false, 600);
        stack.set(1, 0, 1, 0, false);
        stack.jump(1);
        stack.pass(599);
        Checks.due("up by less than 1", stack.now(0), 0);
        stack.pass(1);
        Checks.due("up", stack.now(0), 1);
        stack.set(1, 0, 0, 0, false);
        stack.jump(1);
        stack.pass(599);
        Checks.due("down by less than 1", stack.now(0), 1);
        stack.pass(1);
        Checks.due("down", stack.now(0), 0);
    }

    @Says(promise = 0,
        value = "A channel is fading if its fade began less than the delay plus the time ago.")
    static void fadingEndsWithTheTime() {
        CueStack stack = fade(100, 600, 600);
        stack.go();
        Checks.due("at 0", stack.playing(3), 1);
        stack.pass(1199);
        Checks.due("at 1199", stack.playing(3), 1);
        stack.pass(1);
        Checks.due("at 1200", stack.playing(3), 0);
        CueStack delayed = fade(100, 1, 0);
        delayed.go();
        Checks.due("at 0", delayed.playing(3), 1);
        delayed.pass(1);
        Checks.due("at 1", delayed.playing(3), 0);
        CueStack timed = fade(100, 0, 1);
        timed.go();
        Checks.due("at 0", timed.account(4), 1);
        timed.pass(1);
        Checks.due("at 1", timed.account(4), 0);
    }

    @Says(promise = 0, value = "The next cue is the one with the lowest number above that of the "
        + "cue that went last, also if this one was removed since")
    static void theNextCueIsAboveTheLastOne() {
        CueStack stack = Stacks.withCues(1, 50, 98, 99);
        stack.jump(50);
        Checks.due("next", stack.playing(2), 98);
        stack.removeCue(50, false);
        Checks.due("next of a removed one", stack.playing(2), 98);
        stack.addCue(49);
        Checks.due("a lower one is not", stack.playing(2), 98);
        stack.addCue(51);
        Checks.due("the lowest above", stack.playing(2), 51);
        stack.addCue(50);
        Checks.due("the number itself is not", stack.playing(2), 51);
        stack.removeCue(51, false);
        stack.removeCue(98, false);
        Checks.due("go", stack.go(), 99);
        Checks.due("none above 99", stack.playing(2), 0);
        stack.removeCue(99, false);
        Checks.due("none above 99", stack.playing(2), 0);
        Bounds.dueRefused(stack, "go", 4, stack::go);
    }

    @Says(promise = 0, value = "before any went, it is the first one")
    static void theNextCueIsTheFirstOneBefore() {
        CueStack stack = new CueStack();
        Checks.due("none", stack.playing(2), 0);
        stack.addCue(99);
        Checks.due("the first one", stack.playing(2), 99);
        stack.addCue(1);
        Checks.due("the first one", stack.playing(2), 1);
        stack.pass(5);
        stack.go();
        Checks.due("next", stack.playing(2), 99);
        stack.undo();
        Checks.due("none went", stack.playing(2), 1);
        stack.go();
        stack.clear();
        stack.addCue(1);
        Checks.due("none went", stack.playing(2), 1);
    }

    @Says(promise = 0, value = "When a tenth passes, all fades go on by that, and then")
    static void fadesGoOnAheadOfTheFollow() {
        CueStack stack = fade(100, 0, 10);
        stack.addCue(2);
        stack.setBlock(2, true);
        stack.setPart(2, 0, false, 10);
        stack.setFollow(1, 1);
        stack.go();
        Checks.due("pass", stack.pass(1), 1);
        Checks.due("it begins behind the tenth", stack.now(0), 10);
        Bounds.dueNow(stack, 0, 10, 9, 8);
    }

    @Says(promise = 0, value = "if the cue that went last is there")
    static void aRemovedCueHasNoFollow() {
        CueStack stack = Stacks.withCues(1, 2);
        stack.setFollow(1, 1);
        stack.go();
        stack.removeCue(1, true);
        Checks.due("removed", stack.pass(6000), 0);
        stack.undo();
        stack.undo();
        Checks.due("there again", stack.pass(6000), 1);
        CueStack none = Stacks.withCues(1, 2);
        none.setFollow(1, 1);
        Checks.due("none went", none.pass(6000), 0);
    }

    @Says(promise = 0,
        value = "has a follow time that is not more than the tenths since it went")
    static void theFollowTimeIsReached() {
        CueStack stack = Stacks.withCues(1, 2, 3);
        stack.setFollow(1, 6000);
        stack.setFollow(2, 1);
        stack.go();
        Checks.due("one tenth ahead", stack.pass(5999), 0);
        Checks.due("then", stack.pass(1), 1);
        Checks.due("one tenth", stack.pass(1), 1);
        Checks.due("last", stack.playing(0), 3);
        stack.jump(1);
        stack.setFollow(1, -1);
        Checks.due("none", stack.pass(6000), 0);
        stack.setFollow(1, 6000);
        Checks.due("no tenth", stack.pass(0), 0);
        Checks.due("it is less than the tenths", stack.pass(1), 1);
    }

    @Says(promise = 0, value = "and there is a next cue, this goes")
    static void nothingFollowsTheLastOne() {
        CueStack stack = Stacks.withCues(1, 98);
        stack.setFollow(98, 1);
        stack.jump(98);
        Checks.due("none goes", stack.pass(6000), 0);
        Checks.due("last", stack.playing(0), 98);
        stack.addCue(97);
        Checks.due("a lower one does not", stack.pass(10), 0);
        stack.addCue(99);
        Checks.due("no tenth", stack.pass(0), 0);
        Checks.due("the new one", stack.pass(1), 1);
        Checks.due("last", stack.playing(0), 99);
    }

    @Says(promise = 0, value = "Editing does not change targets; the next cue that goes does.")
    static void editingDoesNotChangeTargets() {
        CueStack stack = Stacks.withCues(1, 2, 3);
        stack.set(1, 0, 40, 0, false);
        stack.setPart(1, 0, false, 10);
        stack.go();
        stack.pass(5);
        stack.set(1, 0, 100, 0, false);
        stack.release(1, 0, 0, true);
        stack.setHome(0, 90);
        stack.unset(1, 0, false);
        stack.setBlock(1, true);
        stack.setPart(1, 0, false, 600);
        stack.addCue(4);
        stack.removeCue(1, true);
        Checks.due("target", stack.target(0), 40);
        Bounds.dueNow(stack, 0, 20, 24, 28, 32, 36, 40);
        Checks.due("go", stack.go(), 2);
        Checks.due("the next cue", stack.target(0), stack.level(2, 0));
    }

    // ---- Refusals

    @Says(promise = 0, value = "1 the cue is protected")
    static void reason1TheCueIsProtected() {
        CueStack stack = Stacks.withCues(1, 2, 3);
        stack.set(2, 0, 50, 0, false);
        stack.setProtected(2, true);
        for (boolean held : new boolean[] {false, true}) {
            Bounds.dueRefused(stack, "set", 1, () -> stack.set(2, 0, 60, 0, held));
            Bounds.dueRefused(stack, "set the same", 1, () -> stack.set(2, 0, 50, 0, held));
            Bounds.dueRefused(stack, "set", 1, () -> stack.set(2, 1, 60, 0, held));
            Bounds.dueRefused(stack, "release", 1, () -> stack.release(2, 0, 0, held));
            Bounds.dueRefused(stack, "unset", 1, () -> stack.unset(2, 0, held));
            Bounds.dueRefused(stack, "removeCue", 1, () -> stack.removeCue(2, held));
        }
        Bounds.dueNotDone(stack, "s2/0@60;", 1);
        Bounds.dueNotDone(stack, "r2/0;", 1);
        Bounds.dueNotDone(stack, "x2;", 1);
        stack.go();
        Checks.due("a protected one goes", stack.go(), 2);
        stack.go();
        Checks.due("and back", stack.back(), 2);
        Checks.due("removeCue of another", stack.removeCue(3, true), 0);
    }

    @Says(promise = 0,
        value = "or the next one is, which would get an instruction because it is held")
    static void reason1TheNextOneIsProtected() {
        CueStack stack = Stacks.withCues(1, 2, 3);
        stack.set(1, 0, 50, 0, false);
        stack.setProtected(2, true);
        Bounds.dueRefused(stack, "set", 1, () -> stack.set(1, 0, 60, 0, true));
        Bounds.dueRefused(stack, "set", 1, () -> stack.set(1, 1, 60, 0, true));
        Bounds.dueRefused(stack, "release", 1, () -> stack.release(1, 0, 0, true));
        Bounds.dueRefused(stack, "unset", 1, () -> stack.unset(1, 0, true));
        Bounds.dueRefused(stack, "removeCue", 1, () -> stack.removeCue(1, true));
        stack.setProtected(2, false);
        stack.setProtected(3, true);
        Checks.due("the one behind it hinders nothing", stack.set(1, 0, 60, 0, true), 1);
        stack.unset(2, 0, false);
        Checks.due("release", stack.release(1, 0, 0, true), 1);
        stack.unset(2, 0, false);
        stack.set(1, 0, 70, 0, false);
        Checks.due("unset", stack.unset(1, 0, true), 1);
        Checks.due("removeCue", stack.removeCue(1, true), 0);
    }

    @Says(promise = 0, value = "2 there would be more than 60 instructions")
    static void reason2TooManyInstructions() {
        CueStack stack = Stacks.full();
        stack.unset(1, 0, false);
        stack.setBlock(6, true);
        Checks.due("60 are right", stack.set(6, 0, 0, 0, false), 0);
        Bounds.dueRefused(stack, "set", 2, () -> stack.set(6, 1, 0, 0, false));
        Bounds.dueRefused(stack, "release", 2, () -> stack.release(7, 1, 0, false));
        Bounds.dueRefused(stack, "removeCue", 2, () -> stack.removeCue(6, true));
        Bounds.dueNotDone(stack, "s6/1@0;", 2);
        Bounds.dueNotDone(stack, "r7/1;", 2);
        Checks.due("instructions", stack.account(1), 60);
    }

    @Says(promise = 0, value = "3 for unset, there is no such instruction")
    static void reason3NoSuchInstruction() {
        CueStack stack = Stacks.full();
        Bounds.dueRefused(stack, "unset", 3, () -> stack.unset(6, 0, false));
        Bounds.dueRefused(stack, "unset", 3, () -> stack.unset(6, 0, true));
        Bounds.dueRefused(stack, "unset", 3, () -> stack.unset(7, 11, true));
        stack.setBlock(6, true);
        stack.setProtected(7, true);
        Bounds.dueRefused(stack, "unset in a block", 3, () -> stack.unset(6, 5, true));
        stack.unset(5, 0, false);
        Bounds.dueRefused(stack, "unset again", 3, () -> stack.unset(5, 0, false));
    }

    @Says(promise = 0, value = "4 for go, there is no next cue")
    static void reason4NoNextCue() {
        CueStack stack = new CueStack();
        Bounds.dueRefused(stack, "no cue", 4, stack::go);
        Bounds.dueNotDone(stack, "g;", 4);
        stack.addCue(99);
        stack.go();
        Bounds.dueRefused(stack, "no cue above", 4, stack::go);
        stack.addCue(98);
        Bounds.dueRefused(stack, "no cue above", 4, stack::go);
        Bounds.dueNotDone(stack, "j98;g;g;", 4);
        stack.jump(98);
        Checks.due("go", stack.go(), 99);
    }

    @Says(promise = 0, value = "5 for back, there is no cue with a lower number than the one that "
        + "went last, or none went")
    static void reason5NoLowerCue() {
        CueStack stack = new CueStack();
        Bounds.dueRefused(stack, "no cue", 5, stack::back);
        stack.addCue(1);
        stack.addCue(2);
        Bounds.dueRefused(stack, "none went", 5, stack::back);
        stack.pass(10);
        Bounds.dueRefused(stack, "none went", 5, stack::back);
        stack.go();
        Bounds.dueRefused(stack, "none is lower", 5, stack::back);
        stack.go();
        stack.removeCue(1, false);
        Bounds.dueRefused(stack, "none is lower now", 5, stack::back);
        stack.removeCue(2, false);
        Bounds.dueRefused(stack, "no cue is left", 5, stack::back);
        stack.addCue(2);
        Bounds.dueRefused(stack, "the number itself", 5, stack::back);
        stack.addCue(1);
        Checks.due("back", stack.back(), 1);
    }

    @Says(promise = 0, value = "a reason is kept, the first one that applies")
    static void theFirstReasonThatAppliesIsKept() {
        CueStack stack = Stacks.full();
        stack.setProtected(6, true);
        Bounds.dueRefused(stack, "1 ahead of 2", 1, () -> stack.set(6, 0, 1, 0, false));
        Bounds.dueRefused(stack, "1 ahead of 2", 1, () -> stack.release(6, 0, 0, false));
        Bounds.dueRefused(stack, "1 ahead of 3", 1, () -> stack.unset(6, 0, false));
        Bounds.dueRefused(stack, "the next one: 1 ahead of 2", 1,
            () -> stack.set(5, 0, 1, 0, true));
        Bounds.dueRefused(stack, "the next one: 1 ahead of 2", 1,
            () -> stack.release(5, 0, 0, true));
        stack.setProtected(6, false);
        stack.setBlock(6, true);
        stack.setProtected(7, true);
        Bounds.dueRefused(stack, "the next one: 1 ahead of 2", 1, () -> stack.removeCue(6, true));
        stack.setProtected(7, false);
        Bounds.dueRefused(stack, "2 alone", 2, () -> stack.removeCue(6, true));
        Bounds.dueRefused(stack, "3 alone", 3, () -> stack.unset(6, 0, true));
    }
}
