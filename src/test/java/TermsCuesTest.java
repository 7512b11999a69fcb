/** The boundaries that "Terms" names of levels, cues, instructions, tracking and editing. */
final class TermsCuesTest {
    public static void main(String[] args) throws IllegalAccessException {
        Checks.runAll(TermsCuesTest.class);
    }

    // ---- Levels and channels

    @Says(promise = 0, value = "There are 12 channels, numbered from 0")
    static void channelsAre0To11() {
        CueStack stack = Stacks.withCues(1);
        for (int channel = 0; channel < 12; channel++) {
            Checks.due("set", stack.set(1, channel, channel + 1, 0, false), 1);
        }
        stack.go();
        for (int channel = 0; channel < 12; channel++) {
            Checks.due("level", stack.level(1, channel), channel + 1);
            Checks.due("target", stack.target(channel), channel + 1);
            Checks.due("now", stack.now(channel), channel + 1);
        }
        for (int channel : Bounds.outside(0, 11)) {
            Bounds.dueThrow(stack, "set", Bounds.NO_INDEX,
                () -> stack.set(1, channel, 50, 0, false));
            Bounds.dueThrow(stack, "now", Bounds.NO_INDEX, () -> stack.now(channel));
        }
    }

    @Says(promise = 0, value = "a level is from 0 to 100")
    static void levelsAre0To100() {
        CueStack stack = Stacks.withCues(1);
        for (int level = 0; level <= 100; level++) {
            stack.set(1, 3, level, 0, false);
            stack.setHome(4, level);
            Checks.due("level", stack.level(1, 3), level);
            Checks.due("home", stack.level(1, 4), level);
        }
        for (int level : Bounds.outside(0, 100)) {
            Bounds.dueThrow(stack, "set " + level, Bounds.BAD,
                () -> stack.set(1, 3, level, 0, false));
            Bounds.dueThrow(stack, "setHome " + level, Bounds.BAD, () -> stack.setHome(3, level));
        }
    }

    @Says(promise = 0, value = "Each channel has a home level, at first 0.")
    static void homesAreAtFirst0() {
        CueStack stack = Stacks.withCues(1);
        for (int channel = 0; channel < 12; channel++) {
            Checks.due("level", stack.level(1, channel), 0);
            Checks.due("home", stack.setHome(channel, 10 + channel), 0);
        }
        for (int channel = 0; channel < 12; channel++) {
            Checks.due("its own", stack.level(1, channel), 10 + channel);
        }
    }

    // ---- Cues

    @Says(promise = 0, value = "There are at most 12 cues")
    static void cuesAreAtMost12() {
        CueStack stack = Stacks.allCues();
        Checks.due("cues", stack.account(0), 12);
        for (int number = 13; number <= 99; number++) {
            int added = number;
            Checks.dueThrow("addCue", Bounds.STATE, () -> stack.addCue(added));
        }
        Bounds.dueNotDone(stack, "c13;");
        Bounds.dueThrow(stack, "addCue", Bounds.STATE, () -> stack.addCue(99));
        stack.removeCue(12, false);
        Checks.due("one in its place", stack.addCue(13), 12);
        Bounds.dueThrow(stack, "addCue", Bounds.STATE, () -> stack.addCue(12));
    }

    @Says(promise = 0, value = "each with a number of its own from 1 to 99")
    static void numbersAre1To99() {
        CueStack stack = new CueStack();
        for (int number = 1; number <= 99; number++) {
            int added = number;
            Checks.due("addCue", stack.addCue(number), 1);
            Checks.due("number", stack.cueAt(0), number);
            Checks.dueThrow("its own", Bounds.BAD, () -> stack.addCue(added));
            stack.removeCue(number, false);
        }
        for (int number : Bounds.outside(1, 99)) {
            Bounds.dueThrow(stack, "addCue " + number, Bounds.BAD, () -> stack.addCue(number));
        }
    }

    @Says(promise = 0, value = "they stand in ascending order of their numbers")
    static void cuesStandInAscendingOrder() {
        CueStack down = Stacks.withCues(12, 11, 10, 9, 8, 7, 6, 5, 4, 3, 2, 1);
        CueStack mixed = Stacks.withCues(7, 1, 12, 6, 2, 11, 5, 3, 10, 4, 8, 9);
        for (int index = 0; index < 12; index++) {
            Checks.due("downwards", down.cueAt(index), index + 1);
            Checks.due("mixed", mixed.cueAt(index), index + 1);
            Checks.due("index", mixed.cue(index + 1, 0), index);
        }
        mixed.removeCue(12, false);
        mixed.removeCue(1, false);
        mixed.removeCue(6, false);
        mixed.addCue(99);
        mixed.addCue(1);
        int[] due = {1, 2, 3, 4, 5, 7, 8, 9, 10, 11, 99};
        for (int index = 0; index < due.length; index++) {
            Checks.due("after removing", mixed.cueAt(index), due[index]);
        }
    }

    @Says(promise = 0, value = "A cue can be a block, and can be protected; at first it is neither.")
    static void cuesAreAtFirstNeither() {
        CueStack stack = Stacks.withCues(1, 99);
        for (int cue : new int[] {1, 99}) {
            Checks.due("block", stack.cue(cue, 2), 0);
            Checks.due("protected", stack.cue(cue, 3), 0);
            stack.setBlock(cue, true);
            Checks.due("was protected", stack.setProtected(cue, true), false);
            Checks.due("block", stack.cue(cue, 2), 1);
            Checks.due("protected", stack.cue(cue, 3), 1);
        }
        stack.setProtected(99, false);
        stack.removeCue(99, false);
        stack.addCue(99);
        Checks.due("anew no block", stack.cue(99, 2), 0);
        Checks.due("anew not protected", stack.cue(99, 3), 0);
    }

    @Says(promise = 0, value = "It has four parts, numbered from 0")
    static void partsAre0To3() {
        CueStack stack = Stacks.withCues(5);
        for (int part = 0; part < 4; part++) {
            stack.setPart(5, part, true, part + 1);
            stack.set(5, part, 50, part, false);
            Checks.due("part", stack.instruction(part, 3), part);
        }
        for (int part = 0; part < 4; part++) {
            Checks.due("its own", stack.part(5, part, true), part + 1);
        }
        for (int part : Bounds.outside(0, 3)) {
            Bounds.dueThrow(stack, "setPart " + part, Bounds.NO_INDEX,
                () -> stack.setPart(5, part, true, 1));
            Bounds.dueThrow(stack, "set " + part, Bounds.NO_INDEX,
                () -> stack.set(5, 0, 50, part, false));
            Bounds.dueThrow(stack, "release " + part, Bounds.NO_INDEX,
                () -> stack.release(5, 0, part, false));
        }
    }

    @Says(promise = 0,
        value = "each with a delay and a time from 0 to 600 tenths, both at first 0")
    static void delaysAndTimesAre0To600() {
        CueStack stack = Stacks.withCues(5);
        for (int part = 0; part < 4; part++) {
            Checks.due("delay", stack.part(5, part, true), 0);
            Checks.due("time", stack.part(5, part, false), 0);
            Checks.due("most", stack.setPart(5, part, true, 600), 0);
            Checks.due("most", stack.setPart(5, part, false, 600), 0);
            Checks.due("least", stack.setPart(5, part, true, 0), 600);
            Checks.due("least", stack.setPart(5, part, false, 0), 600);
        }
        for (int tenths : Bounds.outside(0, 600)) {
            Bounds.dueThrow(stack, "delay " + tenths, Bounds.BAD,
                () -> stack.setPart(5, 3, true, tenths));
            Bounds.dueThrow(stack, "time " + tenths, Bounds.BAD,
                () -> stack.setPart(5, 3, false, tenths));
        }
    }

    @Says(promise = 0, value = "it has a follow time from 1 to 6000 tenths or none, as at first")
    static void followTimesAre1To6000OrNone() {
        CueStack stack = Stacks.withCues(5, 6);
        Checks.due("none at first", stack.cue(5, 1), -1);
        Checks.due("least", stack.setFollow(5, 1), -1);
        Checks.due("most", stack.setFollow(5, 6000), 1);
        Checks.due("none", stack.setFollow(5, -1), 6000);
        Checks.due("none", stack.cue(5, 1), -1);
        for (int tenths : Bounds.outside(-1, 6000)) {
            Bounds.dueThrow(stack, "setFollow " + tenths, Bounds.BAD,
                () -> stack.setFollow(5, tenths));
        }
        Bounds.dueThrow(stack, "setFollow 0", Bounds.BAD, () -> stack.setFollow(5, 0));
    }

    // ---- Instructions

    @Says(promise = 0, value = "A cue can have an instruction for each channel: a level, or a "
        + "release; it belongs to one of the parts of the cue.")
    static void cuesHaveAnInstructionForEachChannel() {
        CueStack stack = Stacks.withCues(9);
        for (int channel = 0; channel < 12; channel++) {
            if (channel % 2 == 0) {
                stack.set(9, channel, channel, channel % 4, false);
            } else {
                stack.release(9, channel, channel % 4, false);
            }
        }
        Checks.due("all 12", stack.cue(9, 4), 12);
        for (int channel = 0; channel < 12; channel++) {
            Bounds.dueInstruction(stack, channel, 9, channel, channel % 2 == 0 ? channel : -1,
                channel % 4);
        }
        stack.set(9, 0, 1, 1, false);
        Checks.due("one for each alone", stack.cue(9, 4), 12);
    }

    @Says(promise = 0, value = "There are at most 60 instructions.")
    static void instructionsAreAtMost60() {
        CueStack stack = Stacks.full();
        stack.unset(5, 11, false);
        Checks.due("the 60th", stack.release(7, 11, 0, false), 1);
        Checks.due("instructions", stack.account(1), 60);
        Bounds.dueRefused(stack, "a 61st level", 2, () -> stack.set(7, 0, 1, 0, false));
        Bounds.dueRefused(stack, "a 61st release", 2, () -> stack.release(7, 0, 0, false));
        Bounds.dueRefused(stack, "a 61st that holds", 2, () -> stack.set(5, 0, 1, 0, true));
        Bounds.dueNotDone(stack, "s7/0@1;", 2);
        Bounds.dueNotDone(stack, "r7/0;", 2);
        Checks.due("instructions", stack.account(1), 60);
    }

    @Says(promise = 0, value = "They are listed in the order in which they came")
    static void instructionsAreListedAsTheyCame() {
        CueStack stack = Stacks.withCues(1, 2, 3);
        stack.set(3, 11, 1, 0, false);
        stack.set(1, 11, 2, 1, false);
        stack.release(2, 0, 2, false);
        stack.set(1, 0, 3, 3, false);
        Bounds.dueList(stack, new int[] {3, 11, 1, 0}, new int[] {1, 11, 2, 1},
            new int[] {2, 0, -1, 2}, new int[] {1, 0, 3, 3});
        stack.unset(3, 11, false);
        stack.set(3, 11, 4, 0, false);
        Bounds.dueList(stack, new int[] {1, 11, 2, 1}, new int[] {2, 0, -1, 2},
            new int[] {1, 0, 3, 3}, new int[] {3, 11, 4, 0});
        stack.addCue(4);
        stack.removeCue(1, false);
        Bounds.dueList(stack, new int[] {2, 0, -1, 2}, new int[] {3, 11, 4, 0});
    }

    @Says(promise = 0, value = "an instruction that is given anew for the same cue and channel "
        + "takes the place of the earlier one in this list")
    static void anInstructionAnewTakesThePlace() {
        CueStack stack = Stacks.withCues(1, 2);
        stack.set(1, 0, 10, 0, false);
        stack.set(1, 1, 20, 0, false);
        stack.set(2, 0, 30, 0, false);
        stack.release(1, 0, 3, false);
        Bounds.dueList(stack, new int[] {1, 0, -1, 3}, new int[] {1, 1, 20, 0},
            new int[] {2, 0, 30, 0});
        stack.set(2, 0, 31, 2, false);
        stack.set(1, 0, 11, 1, false);
        Bounds.dueList(stack, new int[] {1, 0, 11, 1}, new int[] {1, 1, 20, 0},
            new int[] {2, 0, 31, 2});
        stack.set(1, 1, 20, 0, false);
        Checks.due("the same again", stack.account(1), 3);
        Bounds.dueRead(stack, "r1/1;s2/0@0;", 2);
        Bounds.dueList(stack, new int[] {1, 0, 11, 1}, new int[] {1, 1, -1, 0},
            new int[] {2, 0, 0, 0});
    }

    // ---- Tracking

    @Says(promise = 0, value = "where a release means the home level of the channel")
    static void aReleaseMeansTheHomeLevel() {
        CueStack stack = Stacks.withCues(1, 2, 3);
        stack.set(1, 6, 50, 0, false);
        stack.release(2, 6, 0, false);
        Bounds.dueLevels(stack, 6, 50, 0, 0);
        stack.setHome(6, 100);
        Bounds.dueLevels(stack, 6, 50, 100, 100);
        stack.setHome(6, 50);
        Bounds.dueLevels(stack, 6, 50, 50, 50);
        stack.setHome(5, 7);
        Bounds.dueLevels(stack, 6, 50, 50, 50);
    }

    @Says(promise = 0,
        value = "otherwise, if the cue is the first one or a block, it is the home level")
    static void theFirstOneAndBlocksHaveTheHomeLevel() {
        CueStack stack = Stacks.withCues(10, 20, 30);
        stack.setHome(0, 9);
        stack.set(10, 0, 50, 0, false);
        Bounds.dueLevels(stack, 0, 50, 50, 50);
        stack.addCue(5);
        Bounds.dueLevels(stack, 0, 9, 50, 50, 50);
        stack.setBlock(20, true);
        Bounds.dueLevels(stack, 0, 9, 50, 9, 9);
        stack.set(20, 0, 60, 0, false);
        Bounds.dueLevels(stack, 0, 9, 50, 60, 60);
        stack.unset(20, 0, false);
        stack.setBlock(20, false);
        stack.removeCue(5, false);
        stack.removeCue(10, false);
        Bounds.dueLevels(stack, 0, 9, 9);
        stack.setBlock(20, true);
        Bounds.dueLevels(stack, 0, 9, 9);
    }

    @Says(promise = 0, value = "otherwise it is the level of the channel in the cue before")
    static void levelsTrackThroughAllCues() {
        CueStack stack = Stacks.allCues();
        stack.set(1, 11, 77, 0, false);
        Bounds.dueLevels(stack, 11, 77, 77, 77, 77, 77, 77, 77, 77, 77, 77, 77, 77);
        stack.set(12, 11, 0, 0, false);
        Bounds.dueLevels(stack, 11, 77, 77, 77, 77, 77, 77, 77, 77, 77, 77, 77, 0);
        stack.setBlock(2, true);
        Bounds.dueLevels(stack, 11, 77, 0, 0, 0, 0, 0, 0, 0, 0, 0, 0, 0);
        Bounds.dueLevels(stack, 10, 0, 0, 0, 0, 0, 0, 0, 0, 0, 0, 0, 0);
    }

    @Says(promise = 0, value = "The source of it is the last cue up to this one with an "
        + "instruction for the channel or that is a block")
    static void theSourceIsTheLastThatTells() {
        CueStack stack = Stacks.withCues(1, 2, 3, 4, 5);
        stack.set(2, 0, 10, 0, false);
        stack.release(4, 0, 0, false);
        Bounds.dueSources(stack, 0, 1, 2, 2, 4, 4);
        stack.setBlock(5, true);
        Bounds.dueSources(stack, 0, 1, 2, 2, 4, 5);
        stack.setBlock(3, true);
        Bounds.dueSources(stack, 0, 1, 2, 3, 4, 5);
        Bounds.dueSources(stack, 1, 1, 1, 3, 3, 5);
        stack.set(3, 0, 1, 0, false);
        Bounds.dueSources(stack, 0, 1, 2, 3, 4, 5);
    }

    @Says(promise = 0, value = "or the first cue if there is none of these")
    static void theSourceIsElseTheFirstCue() {
        CueStack stack = Stacks.allCues();
        Bounds.dueSources(stack, 3, 1, 1, 1, 1, 1, 1, 1, 1, 1, 1, 1, 1);
        stack.removeCue(1, false);
        Bounds.dueSources(stack, 3, 2, 2, 2, 2, 2, 2, 2, 2, 2, 2, 2);
        stack.set(2, 4, 5, 0, false);
        stack.setBlock(2, true);
        Checks.due("also if it is told there", stack.source(12, 4), 2);
        CueStack single = Stacks.withCues(99);
        Checks.due("itself", single.source(99, 11), 99);
    }

    @Says(promise = 0,
        value = "A channel moves in a cue if its level in it is not the one in the cue before")
    static void channelsMoveByAnotherLevel() {
        CueStack stack = Stacks.withCues(1, 2, 3);
        stack.set(1, 0, 50, 0, false);
        Checks.due("tracked", stack.cue(2, 5), 0);
        stack.set(2, 0, 50, 0, false);
        Checks.due("an instruction of the same level", stack.cue(2, 5), 0);
        stack.set(2, 0, 51, 0, false);
        Checks.due("by one", stack.cue(2, 5), 1);
        stack.release(3, 0, 0, false);
        Checks.due("released", stack.cue(3, 5), 1);
        stack.setHome(0, 51);
        Checks.due("home is that level", stack.cue(3, 5), 0);
        stack.setBlock(2, true);
        stack.unset(2, 0, false);
        Checks.due("by the block", stack.cue(2, 5), 1);
    }

    @Says(promise = 0, value = "or, in the first cue, not its home level")
    static void channelsMoveInTheFirstCue() {
        CueStack stack = Stacks.withCues(2);
        stack.setHome(0, 20);
        Checks.due("none", stack.cue(2, 5), 0);
        stack.set(2, 0, 20, 0, false);
        Checks.due("home", stack.cue(2, 5), 0);
        stack.set(2, 1, 20, 0, false);
        Checks.due("not home", stack.cue(2, 5), 2);
        stack.setHome(1, 20);
        Checks.due("home now", stack.cue(2, 5), 0);
        stack.setHome(0, 21);
        Checks.due("no home now", stack.cue(2, 5), 1);
        stack.addCue(1);
        stack.set(1, 0, 20, 0, false);
        Checks.due("no more the first one", stack.cue(2, 5), 0);
        stack.removeCue(1, false);
        Checks.due("the first one again", stack.cue(2, 5), 1);
    }

    // ---- Editing

    @Says(promise = 0, value = "When an instruction is given or taken away, or a cue is removed, "
        + "it can be held")
    static void editingCanBeHeld() {
        for (boolean held : new boolean[] {false, true}) {
            CueStack stack = Stacks.withCues(1, 2, 3);
            Checks.due("set", stack.set(1, 0, 50, 0, held), held ? 1 : 3);
            Bounds.dueLevels(stack, 0, 50, held ? 0 : 50, held ? 0 : 50);
            stack.set(2, 1, 60, 0, false);
            Checks.due("release", stack.release(2, 1, 0, held), held ? 1 : 2);
            Bounds.dueLevels(stack, 1, 0, 0, held ? 60 : 0);
            stack.set(2, 2, 70, 0, false);
            Checks.due("unset", stack.unset(2, 2, held), held ? 1 : 2);
            Bounds.dueLevels(stack, 2, 0, 0, held ? 70 : 0);
            stack.set(2, 3, 80, 0, false);
            stack.removeCue(2, held);
            Bounds.dueLevels(stack, 3, 0, held ? 80 : 0);
        }
    }

    @Says(promise = 0, value = "if there is a next cue that is not a block")
    static void nothingHoldsWithoutANextCueOrInABlock() {
        CueStack stack = Stacks.withCues(1, 2);
        Checks.due("no next cue", stack.set(2, 0, 50, 0, true), 1);
        Checks.due("no next cue", stack.release(2, 0, 0, true), 1);
        Checks.due("no next cue", stack.unset(2, 0, true), 0);
        stack.setBlock(2, true);
        Checks.due("a block", stack.set(1, 0, 50, 0, true), 1);
        Checks.due("a block", stack.release(1, 0, 0, true), 1);
        Checks.due("a block", stack.set(1, 0, 60, 0, true), 1);
        Checks.due("a block", stack.unset(1, 0, true), 1);
        stack.set(1, 0, 70, 0, true);
        Checks.due("a block", stack.removeCue(1, true), 1);
        Checks.due("nothing came", stack.account(1), 0);
        stack.set(2, 0, 70, 0, true);
        Checks.due("no next cue", stack.removeCue(2, true), 1);
        Checks.due("nothing came", stack.account(1), 0);
    }

    @Says(promise = 0, value = "has no instruction for a channel whose level in it would be "
        + "changed by that")
    static void onlyWhatWouldBeChangedHolds() {
        CueStack stack = Stacks.withCues(1, 2, 3);
        stack.set(2, 0, 20, 3, false);
        Checks.due("it has one", stack.set(1, 0, 50, 0, true), 1);
        Bounds.dueList(stack, new int[] {2, 0, 20, 3}, new int[] {1, 0, 50, 0});
        Checks.due("not changed", stack.set(1, 0, 50, 2, true), 0);
        Checks.due("not changed", stack.release(3, 0, 2, true), 1);
        Checks.due("a level of home in place of a release", stack.set(3, 0, 0, 0, true), 0);
        stack.release(1, 5, 0, true);
        Checks.due("a release of what is home", stack.account(1), 4);
        stack.setHome(7, 30);
        stack.set(1, 7, 30, 0, true);
        stack.unset(1, 7, true);
        Checks.due("a level of what is home", stack.account(1), 4);
        stack.removeCue(2, true);
        Checks.due("the next one has an instruction", stack.account(1), 3);
    }

    @Says(promise = 0, value = "it gets an instruction with the level that it had before, which "
        + "belongs to part 0")
    static void whatHoldsHasTheLevelBeforeAndPart0() {
        CueStack stack = Stacks.withCues(1, 2, 3);
        stack.set(1, 0, 100, 3, true);
        Bounds.dueList(stack, new int[] {1, 0, 100, 3}, new int[] {2, 0, 0, 0});
        stack.unset(2, 0, false);
        stack.unset(1, 0, true);
        Bounds.dueList(stack, new int[] {2, 0, 100, 0});
        stack.release(2, 0, 2, true);
        Bounds.dueList(stack, new int[] {2, 0, -1, 2}, new int[] {3, 0, 100, 0});
        stack.unset(3, 0, false);
        stack.setHome(0, 8);
        stack.set(1, 0, 90, 1, true);
        stack.removeCue(2, true);
        Bounds.dueList(stack, new int[] {1, 0, 90, 1}, new int[] {3, 0, 8, 0});
    }

    @Says(promise = 0, value = "if this cannot be because there are 60 instructions, all is refused")
    static void allIsRefusedIfItCannotHold() {
        CueStack stack = Stacks.full();
        Bounds.dueRefused(stack, "anew", 2, () -> stack.set(5, 11, 6, 0, true));
        Bounds.dueRefused(stack, "anew", 2, () -> stack.release(5, 11, 0, true));
        Checks.due("nothing to hold", stack.set(5, 11, 5, 1, true), 0);
        Checks.due("not held", stack.set(5, 11, 6, 0, false), 3);
        stack.unset(1, 0, false);
        Checks.due("the 60th holds", stack.set(5, 11, 7, 0, true), 1);
        Bounds.dueInstruction(stack, 59, 6, 11, 6, 0);
        Bounds.dueRefused(stack, "the next one", 2, () -> stack.set(5, 10, 7, 0, true));
        CueStack blocks = Stacks.full();
        blocks.setBlock(6, true);
        Bounds.dueRefused(blocks, "removeCue", 2, () -> blocks.removeCue(6, true));
    }

    @Says(promise = 0, value = "the instruction itself is given, replaced or taken away first, and "
        + "then those that hold the levels come")
    static void whatHoldsComesBehindTheInstruction() {
        CueStack stack = Stacks.withCues(1, 2, 3);
        stack.set(3, 3, 1, 0, false);
        stack.set(1, 0, 10, 1, true);
        Bounds.dueList(stack, new int[] {3, 3, 1, 0}, new int[] {1, 0, 10, 1},
            new int[] {2, 0, 0, 0});
        stack.set(1, 5, 50, 2, false);
        stack.set(1, 5, 60, 3, true);
        Bounds.dueInstruction(stack, 3, 1, 5, 60, 3);
        Bounds.dueInstruction(stack, 4, 2, 5, 50, 0);
        stack.unset(2, 0, true);
        Bounds.dueList(stack, new int[] {3, 3, 1, 0}, new int[] {1, 0, 10, 1},
            new int[] {1, 5, 60, 3}, new int[] {2, 5, 50, 0}, new int[] {3, 0, 0, 0});
    }

    @Says(promise = 0, value = "in ascending order of the channels")
    static void whatHoldsComesInOrderOfTheChannels() {
        CueStack stack = Stacks.withCues(1, 2, 3);
        for (int channel : new int[] {11, 4, 0, 7}) {
            stack.set(2, channel, channel + 20, 2, false);
        }
        stack.set(1, 9, 99, 0, false);
        stack.removeCue(2, true);
        Bounds.dueList(stack, new int[] {1, 9, 99, 0}, new int[] {3, 0, 20, 0},
            new int[] {3, 4, 24, 0}, new int[] {3, 7, 27, 0}, new int[] {3, 11, 31, 0});
        CueStack all = Stacks.withCues(8, 9);
        for (int channel = 11; channel >= 0; channel--) {
            all.set(8, channel, 100 - channel, 0, false);
        }
        all.removeCue(8, true);
        for (int channel = 0; channel < 12; channel++) {
            Bounds.dueInstruction(all, channel, 9, channel, 100 - channel, 0);
        }
    }
}
