import java.util.NoSuchElementException;

/**
 * A stack of lighting cues, as ../shared/DOC.md promises it.
 *
 * All rows are made once, with the object: a call makes nothing but the exception that it throws.
 */
public final class CueStack {
    private static final int CHANNELS = 12;
    private static final int MAX_LEVEL = 100;
    private static final int MAX_CUES = 12;
    private static final int MAX_NUMBER = 99;
    private static final int PARTS = 4;
    private static final int MAX_PART_TENTHS = 600;
    private static final int NO_FOLLOW = -1;
    private static final int MAX_FOLLOW = 6000;
    private static final int MAX_INSTRUCTIONS = 60;
    private static final int MAX_PASS = 6000;
    private static final int MAX_PASSED = 100000;
    private static final int MAX_INPUT = 60;
    private static final int MAX_CHANGES = 6;

    /** What a cue tells of a channel is a level from 0 on or one of these. */
    private static final int RELEASE = -1;
    private static final int NO_INSTRUCTION = -2;

    private static final int NOT_REFUSED = 0;
    private static final int REFUSED_PROTECTED = 1;
    private static final int REFUSED_FULL = 2;
    private static final int REFUSED_NO_INSTRUCTION = 3;
    private static final int REFUSED_NO_NEXT = 4;
    private static final int REFUSED_NO_LOWER = 5;

    private static final int NO_POSITION = -1;

    private final Show show = new Show();
    private final Show saved = new Show();
    private final History history = new History();
    private final Input input = new Input();
    private boolean isSaved;
    private int keptReason = NOT_REFUSED;
    private int keptPosition = NO_POSITION;

    public CueStack() {
    }

    // ---- cues

    public int clear() {
        int before = show.cues.count;
        show.makeNew();
        history.forgetAll();
        return before;
    }

    public int addCue(int number) throws IllegalArgumentException, IllegalStateException {
        if (!isFreeNumber(number)) {
            throw new IllegalArgumentException("the number is out of range or used");
        }
        if (show.cues.count >= MAX_CUES) {
            throw new IllegalStateException("there are 12 cues");
        }
        history.remember(show);
        show.cues.insertCue(number);
        return show.cues.count;
    }

    public int removeCue(int cue, boolean isHeld)
            throws IndexOutOfBoundsException, UnsupportedOperationException {
        int index = show.cues.indexOf(cue);
        if (index < 0) {
            throw new IndexOutOfBoundsException("no such cue");
        }
        if (keepIfRefused(show.cues.refusalToDrop(index, isHeld))) {
            throw new UnsupportedOperationException("refused");
        }
        history.remember(show);
        return show.cues.dropCue(index, isHeld);
    }

    public int cueAt(int index) throws NoSuchElementException {
        if (index < 0 || index >= show.cues.count) {
            throw new NoSuchElementException("no such index");
        }
        return show.cues.rows[index].number;
    }

    public int setFollow(int cue, int tenths)
            throws IndexOutOfBoundsException, IllegalArgumentException {
        int index = show.cues.indexOf(cue);
        if (index < 0) {
            throw new IndexOutOfBoundsException("no such cue");
        }
        if (tenths != NO_FOLLOW && !isWithin(tenths, 1, MAX_FOLLOW)) {
            throw new IllegalArgumentException("not a follow time");
        }
        history.remember(show);
        Cue changed = show.cues.rows[index];
        int before = changed.followTime;
        changed.followTime = tenths;
        return before;
    }

    public int setBlock(int cue, boolean isBlock) throws IndexOutOfBoundsException {
        int index = show.cues.indexOf(cue);
        if (index < 0) {
            throw new IndexOutOfBoundsException("no such cue");
        }
        history.remember(show);
        return show.cues.makeBlock(index, isBlock);
    }

    public boolean setProtected(int cue, boolean isProtected) throws IndexOutOfBoundsException {
        int index = show.cues.indexOf(cue);
        if (index < 0) {
            throw new IndexOutOfBoundsException("no such cue");
        }
        history.remember(show);
        Cue changed = show.cues.rows[index];
        boolean before = changed.isProtected;
        changed.isProtected = isProtected;
        return before;
    }

    public int setPart(int cue, int part, boolean isDelay, int tenths)
            throws IndexOutOfBoundsException, IllegalArgumentException {
        int index = show.cues.indexOf(cue);
        if (index < 0 || !isPart(part)) {
            throw new IndexOutOfBoundsException("no such cue or part");
        }
        if (!isWithin(tenths, 0, MAX_PART_TENTHS)) {
            throw new IllegalArgumentException("the tenths are out of range");
        }
        history.remember(show);
        int[] row = show.cues.rows[index].partRow(isDelay);
        int before = row[part];
        row[part] = tenths;
        return before;
    }

    public int cue(int cue, int what) throws IndexOutOfBoundsException, IllegalArgumentException {
        int index = show.cues.indexOf(cue);
        if (index < 0) {
            throw new IndexOutOfBoundsException("no such cue");
        }
        Cue asked = show.cues.rows[index];
        switch (what) {
            case 0: return index;
            case 1: return asked.followTime;
            case 2: return asked.isBlock ? 1 : 0;
            case 3: return asked.isProtected ? 1 : 0;
            case 4: return asked.instructionCount();
            case 5: return show.cues.movingSet(index);
            case 6: return show.cues.lengthOf(index);
            default: throw new IllegalArgumentException("what is not 0 to 6");
        }
    }

    public int part(int cue, int part, boolean isDelay) throws IndexOutOfBoundsException {
        int index = show.cues.indexOf(cue);
        if (index < 0 || !isPart(part)) {
            throw new IndexOutOfBoundsException("no such cue or part");
        }
        return show.cues.rows[index].partRow(isDelay)[part];
    }

    // ---- instructions and levels

    public int setHome(int channel, int level)
            throws IndexOutOfBoundsException, IllegalArgumentException {
        if (!isChannel(channel)) {
            throw new IndexOutOfBoundsException("no such channel");
        }
        if (!isLevel(level)) {
            throw new IllegalArgumentException("the level is out of range");
        }
        history.remember(show);
        int before = show.cues.homes[channel];
        show.cues.homes[channel] = level;
        return before;
    }

    public int set(int cue, int channel, int level, int part, boolean isHeld)
            throws IndexOutOfBoundsException, IllegalArgumentException,
            UnsupportedOperationException {
        int index = show.cues.indexOf(cue);
        if (index < 0 || !isChannel(channel) || !isPart(part)) {
            throw new IndexOutOfBoundsException("no such cue, channel or part");
        }
        if (!isLevel(level)) {
            throw new IllegalArgumentException("the level is out of range");
        }
        if (keepIfRefused(show.cues.refusalToGive(index, channel, level, isHeld))) {
            throw new UnsupportedOperationException("refused");
        }
        history.remember(show);
        return show.cues.give(index, channel, level, part, isHeld);
    }

    public int release(int cue, int channel, int part, boolean isHeld)
            throws IndexOutOfBoundsException, UnsupportedOperationException {
        int index = show.cues.indexOf(cue);
        if (index < 0 || !isChannel(channel) || !isPart(part)) {
            throw new IndexOutOfBoundsException("no such cue, channel or part");
        }
        if (keepIfRefused(show.cues.refusalToGive(index, channel, RELEASE, isHeld))) {
            throw new UnsupportedOperationException("refused");
        }
        history.remember(show);
        return show.cues.give(index, channel, RELEASE, part, isHeld);
    }

    public int unset(int cue, int channel, boolean isHeld)
            throws IndexOutOfBoundsException, UnsupportedOperationException {
        int index = show.cues.indexOf(cue);
        if (index < 0 || !isChannel(channel)) {
            throw new IndexOutOfBoundsException("no such cue or channel");
        }
        if (keepIfRefused(show.cues.refusalToTake(index, channel, isHeld))) {
            throw new UnsupportedOperationException("refused");
        }
        history.remember(show);
        return show.cues.take(index, channel, isHeld);
    }

    public int instruction(int index, int what)
            throws NoSuchElementException, IllegalArgumentException {
        if (index < 0 || index >= show.cues.listed) {
            throw new NoSuchElementException("no such index");
        }
        switch (what) {
            case 0: return show.cues.listedCues[index];
            case 1: return show.cues.listedChannels[index];
            case 2: return show.cues.listedLevel(index);
            case 3: return show.cues.listedPart(index);
            default: throw new IllegalArgumentException("what is not 0 to 3");
        }
    }

    public int level(int cue, int channel) throws IndexOutOfBoundsException {
        int index = show.cues.indexOf(cue);
        if (index < 0 || !isChannel(channel)) {
            throw new IndexOutOfBoundsException("no such cue or channel");
        }
        return show.cues.levelIn(index, channel);
    }

    public int levelAgain(int cue, int channel) throws IndexOutOfBoundsException {
        int index = show.cues.indexOf(cue);
        if (index < 0 || !isChannel(channel)) {
            throw new IndexOutOfBoundsException("no such cue or channel");
        }
        return show.cues.levelFromFirst(index, channel);
    }

    public int source(int cue, int channel) throws IndexOutOfBoundsException {
        int index = show.cues.indexOf(cue);
        if (index < 0 || !isChannel(channel)) {
            throw new IndexOutOfBoundsException("no such cue or channel");
        }
        return show.cues.rows[show.cues.sourceIndex(index, channel)].number;
    }

    public int sum(int cue) throws IndexOutOfBoundsException {
        int index = show.cues.indexOf(cue);
        if (index < 0) {
            throw new IndexOutOfBoundsException("no such cue");
        }
        int total = 0;
        for (int channel = 0; channel < CHANNELS; channel++) {
            total += show.cues.levelIn(index, channel);
        }
        return total;
    }

    public int apart(int cue, int other) throws IndexOutOfBoundsException {
        int index = show.cues.indexOf(cue);
        int otherIndex = show.cues.indexOf(other);
        if (index < 0 || otherIndex < 0) {
            throw new IndexOutOfBoundsException("one of the cues does not exist");
        }
        int different = 0;
        for (int channel = 0; channel < CHANNELS; channel++) {
            if (show.cues.levelIn(index, channel) != show.cues.levelIn(otherIndex, channel)) {
                different++;
            }
        }
        return different;
    }

    public int reason() throws NoSuchElementException {
        if (keptReason == NOT_REFUSED) {
            throw new NoSuchElementException("no reason was kept");
        }
        return keptReason;
    }

    // ---- playing

    public int go() throws UnsupportedOperationException {
        int index = show.playback.nextIndex(show.cues);
        if (index < 0) {
            keptReason = REFUSED_NO_NEXT;
            throw new UnsupportedOperationException("there is no next cue");
        }
        history.remember(show);
        show.playback.letGo(show.cues, index);
        return show.cues.rows[index].number;
    }

    public int back() throws UnsupportedOperationException {
        int index = show.playback.lowerIndex(show.cues);
        if (index < 0) {
            keptReason = REFUSED_NO_LOWER;
            throw new UnsupportedOperationException("there is no cue with a lower number");
        }
        history.remember(show);
        show.playback.letGo(show.cues, index);
        return show.cues.rows[index].number;
    }

    public int jump(int cue) throws IndexOutOfBoundsException {
        int index = show.cues.indexOf(cue);
        if (index < 0) {
            throw new IndexOutOfBoundsException("no such cue");
        }
        history.remember(show);
        return show.playback.letGo(show.cues, index);
    }

    public int pass(int tenths) throws IllegalArgumentException, IllegalStateException {
        if (!isWithin(tenths, 0, MAX_PASS)) {
            throw new IllegalArgumentException("the tenths are out of range");
        }
        if (!show.playback.hasTimeFor(tenths)) {
            throw new IllegalStateException("more than 100000 tenths would have passed");
        }
        history.remember(show);
        return show.playback.letPass(show.cues, tenths);
    }

    public int now(int channel) throws IndexOutOfBoundsException {
        if (!isChannel(channel)) {
            throw new IndexOutOfBoundsException("no such channel");
        }
        return show.playback.presentLevel(channel);
    }

    public int target(int channel) throws IndexOutOfBoundsException {
        if (!isChannel(channel)) {
            throw new IndexOutOfBoundsException("no such channel");
        }
        return show.playback.targets[channel];
    }

    public int playing(int what) throws IllegalArgumentException {
        switch (what) {
            case 0: return show.playback.lastNumber;
            case 1: return show.playback.tenthsSinceLast();
            case 2: return show.playback.nextNumber(show.cues);
            case 3: return show.playback.fadingSet();
            case 4: return show.playback.tenthsToFollow(show.cues);
            default: throw new IllegalArgumentException("what is not 0 to 4");
        }
    }

    public int chain(int cue) throws IndexOutOfBoundsException {
        int index = show.cues.indexOf(cue);
        if (index < 0) {
            throw new IndexOutOfBoundsException("no such cue");
        }
        return show.cues.chainFrom(index);
    }

    // ---- accounts

    public int account(int account) throws IllegalArgumentException {
        switch (account) {
            case 0: return show.cues.count;
            case 1: return show.cues.listed;
            case 2: return show.playback.sumOfPresent();
            case 3: return show.playback.sumOfTargets();
            case 4: return Integer.bitCount(show.playback.fadingSet());
            case 5: return show.playback.wentCount;
            case 6: return show.playback.passed;
            case 7: return show.cues.sumOfMoving();
            case 8: return show.cues.protectedCount();
            case 9: return show.cues.blockCount();
            case 10: return show.cues.releaseCount();
            default: throw new IllegalArgumentException("account is not 0 to 10");
        }
    }

    public double meanLevel() {
        return (double) show.playback.sumOfPresent() / (double) CHANNELS;
    }

    // ---- texts, history and saving

    public int append(char character) throws IllegalArgumentException, IllegalStateException {
        if (character < 32 || character > 126) {
            throw new IllegalArgumentException("the character code is out of range");
        }
        if (input.length >= MAX_INPUT) {
            throw new IllegalStateException("the input has 60 characters");
        }
        input.signs[input.length] = character;
        input.length++;
        return input.length;
    }

    public int read() throws IllegalArgumentException, IllegalStateException {
        int entries = input.countEntries();
        if (entries < 0) {
            keptPosition = input.at;
            input.length = 0;
            throw new IllegalArgumentException("the input is not a text");
        }
        history.prepare(show);
        input.at = 0;
        boolean isDone = true;
        for (int entry = 0; isDone && entry < entries; entry++) {
            isDone = input.readEntry() && performEntry();
        }
        input.length = 0;
        if (!isDone) {
            history.takePrepared(show);
            throw new IllegalStateException("an entry cannot be done");
        }
        history.countPrepared();
        return entries;
    }

    public int errorPosition() throws NoSuchElementException {
        if (keptPosition == NO_POSITION) {
            throw new NoSuchElementException("no error position was kept");
        }
        return keptPosition;
    }

    public int undo() throws NoSuchElementException {
        if (history.remembered == 0) {
            throw new NoSuchElementException("no change is remembered");
        }
        history.takeLatest(show);
        return history.remembered;
    }

    public int save() {
        saved.copyFrom(show);
        isSaved = true;
        return show.cues.count;
    }

    public int restore() throws IllegalStateException {
        if (!isSaved) {
            throw new IllegalStateException("nothing was saved");
        }
        show.copyFrom(saved);
        history.forgetAll();
        return show.cues.count;
    }

    // ---- what the calls above share

    private static boolean isWithin(int number, int least, int greatest) {
        return number >= least && number <= greatest;
    }

    private static boolean isChannel(int channel) {
        return isWithin(channel, 0, CHANNELS - 1);
    }

    private static boolean isLevel(int level) {
        return isWithin(level, 0, MAX_LEVEL);
    }

    private static boolean isPart(int part) {
        return isWithin(part, 0, PARTS - 1);
    }

    private boolean isFreeNumber(int number) {
        return isWithin(number, 1, MAX_NUMBER) && show.cues.indexOf(number) < 0;
    }

    private boolean keepIfRefused(int refusal) {
        if (refusal == NOT_REFUSED) {
            return false;
        }
        keptReason = refusal;
        return true;
    }

    /** Tells whether the entry that was read last could be done. */
    private boolean performEntry() {
        int first = input.numbers[0];
        int index = show.cues.indexOf(first);
        switch (input.kind) {
            case 'c': return performAdd(first);
            case 'x': return index >= 0 && performRemove(index);
            case 's': return index >= 0 && isChannel(input.numbers[1]) && isLevel(input.numbers[2])
                && performGive(index, input.numbers[1], input.numbers[2]);
            case 'r': return index >= 0 && isChannel(input.numbers[1])
                && performGive(index, input.numbers[1], RELEASE);
            case 'g': return performGo();
            case 'j': return index >= 0 && performJump(index);
            case 't': return performPass(first);
            default: return false;
        }
    }

    private boolean performAdd(int number) {
        if (!isFreeNumber(number) || show.cues.count >= MAX_CUES) {
            return false;
        }
        show.cues.insertCue(number);
        return true;
    }

    private boolean performRemove(int index) {
        if (keepIfRefused(show.cues.refusalToDrop(index, false))) {
            return false;
        }
        show.cues.dropCue(index, false);
        return true;
    }

    private boolean performGive(int index, int channel, int told) {
        if (keepIfRefused(show.cues.refusalToGive(index, channel, told, false))) {
            return false;
        }
        show.cues.give(index, channel, told, 0, false);
        return true;
    }

    private boolean performGo() {
        int index = show.playback.nextIndex(show.cues);
        if (index < 0) {
            keptReason = REFUSED_NO_NEXT;
            return false;
        }
        show.playback.letGo(show.cues, index);
        return true;
    }

    private boolean performJump(int index) {
        show.playback.letGo(show.cues, index);
        return true;
    }

    private boolean performPass(int tenths) {
        if (!isWithin(tenths, 0, MAX_PASS) || !show.playback.hasTimeFor(tenths)) {
            return false;
        }
        show.playback.letPass(show.cues, tenths);
        return true;
    }

    /** A cue with what it tells of each channel. */
    private static final class Cue {
        int number;
        int followTime;
        boolean isBlock;
        boolean isProtected;
        final int[] delays = new int[PARTS];
        final int[] times = new int[PARTS];
        final int[] told = new int[CHANNELS];
        final int[] toldParts = new int[CHANNELS];

        void makeNew(int newNumber) {
            number = newNumber;
            followTime = NO_FOLLOW;
            isBlock = false;
            isProtected = false;
            for (int part = 0; part < PARTS; part++) {
                delays[part] = 0;
                times[part] = 0;
            }
            for (int channel = 0; channel < CHANNELS; channel++) {
                told[channel] = NO_INSTRUCTION;
                toldParts[channel] = 0;
            }
        }

        void copyFrom(Cue other) {
            number = other.number;
            followTime = other.followTime;
            isBlock = other.isBlock;
            isProtected = other.isProtected;
            System.arraycopy(other.delays, 0, delays, 0, PARTS);
            System.arraycopy(other.times, 0, times, 0, PARTS);
            System.arraycopy(other.told, 0, told, 0, CHANNELS);
            System.arraycopy(other.toldParts, 0, toldParts, 0, CHANNELS);
        }

        int[] partRow(boolean isDelay) {
            return isDelay ? delays : times;
        }

        boolean isTracking(int channel) {
            return !isBlock && told[channel] == NO_INSTRUCTION;
        }

        int instructionCount() {
            int instructions = 0;
            for (int channel = 0; channel < CHANNELS; channel++) {
                if (told[channel] != NO_INSTRUCTION) {
                    instructions++;
                }
            }
            return instructions;
        }

        int partFor(int channel) {
            return told[channel] == NO_INSTRUCTION ? 0 : toldParts[channel];
        }
    }

    /** The cues in ascending order, the home levels, and the list of the instructions. */
    private static final class CueList {
        /** The rows from count on are spare ones. */
        final Cue[] rows = new Cue[MAX_CUES];
        int count;
        final int[] homes = new int[CHANNELS];
        final int[] listedCues = new int[MAX_INSTRUCTIONS];
        final int[] listedChannels = new int[MAX_INSTRUCTIONS];
        int listed;
        /** Used within dropCue alone, so it is no part of what is copied. */
        private final int[] heldLevels = new int[CHANNELS];

        CueList() {
            for (int index = 0; index < MAX_CUES; index++) {
                rows[index] = new Cue();
            }
        }

        void makeNew() {
            count = 0;
            listed = 0;
            for (int channel = 0; channel < CHANNELS; channel++) {
                homes[channel] = 0;
            }
        }

        void copyFrom(CueList other) {
            count = other.count;
            for (int index = 0; index < count; index++) {
                rows[index].copyFrom(other.rows[index]);
            }
            System.arraycopy(other.homes, 0, homes, 0, CHANNELS);
            System.arraycopy(other.listedCues, 0, listedCues, 0, MAX_INSTRUCTIONS);
            System.arraycopy(other.listedChannels, 0, listedChannels, 0, MAX_INSTRUCTIONS);
            listed = other.listed;
        }

        int indexOf(int number) {
            for (int index = 0; index < count; index++) {
                if (rows[index].number == number) {
                    return index;
                }
            }
            return -1;
        }

        // -- tracking

        /** What an instruction means, or none where nothing is tracked. */
        int levelMeant(int told, int channel) {
            return told >= 0 ? told : homes[channel];
        }

        int levelIn(int index, int channel) {
            for (int at = index; at >= 0; at--) {
                if (!rows[at].isTracking(channel)) {
                    return levelMeant(rows[at].told[channel], channel);
                }
            }
            return homes[channel];
        }

        int levelBefore(int index, int channel) {
            return levelIn(index - 1, channel);
        }

        int levelFromFirst(int index, int channel) {
            int tracked = homes[channel];
            for (int at = 0; at <= index; at++) {
                int told = rows[at].told[channel];
                if (told >= 0) {
                    tracked = told;
                } else if (told == RELEASE || rows[at].isBlock) {
                    tracked = homes[channel];
                }
            }
            return tracked;
        }

        int sourceIndex(int index, int channel) {
            for (int at = index; at > 0; at--) {
                if (!rows[at].isTracking(channel)) {
                    return at;
                }
            }
            return 0;
        }

        boolean isMoving(int index, int channel) {
            return levelIn(index, channel) != levelBefore(index, channel);
        }

        int movingSet(int index) {
            int moving = 0;
            for (int channel = 0; channel < CHANNELS; channel++) {
                if (isMoving(index, channel)) {
                    moving |= 1 << channel;
                }
            }
            return moving;
        }

        int lengthOf(int index) {
            Cue cue = rows[index];
            int length = 0;
            for (int channel = 0; channel < CHANNELS; channel++) {
                if (isMoving(index, channel)) {
                    int part = cue.partFor(channel);
                    length = Math.max(length, cue.delays[part] + cue.times[part]);
                }
            }
            return length;
        }

        int chainFrom(int index) {
            int tenths = 0;
            for (int at = index; at + 1 < count; at++) {
                if (rows[at].followTime == NO_FOLLOW) {
                    return tenths;
                }
                tenths += rows[at].followTime;
            }
            return tenths;
        }

        // -- the list of the instructions

        int listedLevel(int place) {
            int index = indexOf(listedCues[place]);
            return index < 0 ? NO_INSTRUCTION : rows[index].told[listedChannels[place]];
        }

        int listedPart(int place) {
            int index = indexOf(listedCues[place]);
            return index < 0 ? 0 : rows[index].toldParts[listedChannels[place]];
        }

        /** An instruction that is there already keeps its place in the list. */
        private void putInstruction(int index, int channel, int told, int part) {
            Cue cue = rows[index];
            if (cue.told[channel] == NO_INSTRUCTION && listed < MAX_INSTRUCTIONS) {
                listedCues[listed] = cue.number;
                listedChannels[listed] = channel;
                listed++;
            }
            cue.told[channel] = told;
            cue.toldParts[channel] = part;
        }

        private void deleteInstruction(int index, int channel) {
            Cue cue = rows[index];
            cue.told[channel] = NO_INSTRUCTION;
            int kept = 0;
            for (int place = 0; place < listed; place++) {
                if (listedCues[place] != cue.number || listedChannels[place] != channel) {
                    listedCues[kept] = listedCues[place];
                    listedChannels[kept] = listedChannels[place];
                    kept++;
                }
            }
            listed = kept;
        }

        // -- editing

        /** Whether the cue at an index has to be held when it would track this level. */
        private boolean needsHold(int index, int channel, int tracked) {
            return index < count && rows[index].isTracking(channel)
                && levelIn(index, channel) != tracked;
        }

        private int levelWithoutInstruction(int index, int channel) {
            return rows[index].isBlock ? homes[channel] : levelBefore(index, channel);
        }

        private int refusal(int index, int holds, int comesAndGoes) {
            if (rows[index].isProtected) {
                return REFUSED_PROTECTED;
            }
            if (holds > 0 && index + 1 < count && rows[index + 1].isProtected) {
                return REFUSED_PROTECTED;
            }
            return listed + comesAndGoes + holds > MAX_INSTRUCTIONS ? REFUSED_FULL : NOT_REFUSED;
        }

        int refusalToGive(int index, int channel, int told, boolean isHeld) {
            boolean holds = isHeld && needsHold(index + 1, channel, levelMeant(told, channel));
            boolean isNew = rows[index].told[channel] == NO_INSTRUCTION;
            return refusal(index, holds ? 1 : 0, isNew ? 1 : 0);
        }

        int refusalToTake(int index, int channel, boolean isHeld) {
            boolean isThere = rows[index].told[channel] != NO_INSTRUCTION;
            int tracked = levelWithoutInstruction(index, channel);
            boolean holds = isHeld && needsHold(index + 1, channel, tracked);
            int refused = refusal(index, holds ? 1 : 0, isThere ? -1 : 0);
            if (refused != NOT_REFUSED) {
                return refused;
            }
            return isThere ? NOT_REFUSED : REFUSED_NO_INSTRUCTION;
        }

        int refusalToDrop(int index, boolean isHeld) {
            int holds = 0;
            for (int channel = 0; channel < CHANNELS; channel++) {
                if (isHeld && needsHold(index + 1, channel, levelBefore(index, channel))) {
                    holds++;
                }
            }
            return refusal(index, holds, -rows[index].instructionCount());
        }

        /** Returns in how many cues the level is changed. */
        int give(int index, int channel, int told, int part, boolean isHeld) {
            int before = levelIn(index, channel);
            boolean holds = isHeld && needsHold(index + 1, channel, levelMeant(told, channel));
            putInstruction(index, channel, told, part);
            if (holds) {
                putInstruction(index + 1, channel, before, 0);
            }
            return changedFrom(before, index, channel);
        }

        /** Returns in how many cues the level is changed. */
        int take(int index, int channel, boolean isHeld) {
            int before = levelIn(index, channel);
            int tracked = levelWithoutInstruction(index, channel);
            boolean holds = isHeld && needsHold(index + 1, channel, tracked);
            deleteInstruction(index, channel);
            if (holds) {
                putInstruction(index + 1, channel, before, 0);
            }
            return changedFrom(before, index, channel);
        }

        /** The cues behind that track from the one at the index had its level and have it again. */
        private int changedFrom(int before, int index, int channel) {
            if (levelIn(index, channel) == before) {
                return 0;
            }
            int changed = 1;
            for (int at = index + 1; at < count && rows[at].isTracking(channel); at++) {
                changed++;
            }
            return changed;
        }

        /**
         * Returns how many channels have another level in the cue: a channel without an
         * instruction has its home level in a block, and the level before in any other cue.
         */
        int makeBlock(int index, boolean isBlock) {
            Cue cue = rows[index];
            if (cue.isBlock == isBlock) {
                return 0;
            }
            cue.isBlock = isBlock;
            int changed = 0;
            for (int channel = 0; channel < CHANNELS; channel++) {
                if (cue.told[channel] == NO_INSTRUCTION
                        && homes[channel] != levelBefore(index, channel)) {
                    changed++;
                }
            }
            return changed;
        }

        void insertCue(int number) {
            if (count >= MAX_CUES) {
                return;
            }
            Cue added = rows[count];
            added.makeNew(number);
            int place = count;
            while (place > 0 && rows[place - 1].number > number) {
                rows[place] = rows[place - 1];
                place--;
            }
            rows[place] = added;
            count++;
        }

        /** Returns how many instructions the cue had. */
        int dropCue(int index, boolean isHeld) {
            for (int channel = 0; channel < CHANNELS; channel++) {
                boolean holds = isHeld
                    && needsHold(index + 1, channel, levelBefore(index, channel));
                heldLevels[channel] = holds ? levelIn(index + 1, channel) : NO_INSTRUCTION;
            }
            int had = deleteCue(index);
            for (int channel = 0; channel < CHANNELS; channel++) {
                if (heldLevels[channel] != NO_INSTRUCTION) {
                    putInstruction(index, channel, heldLevels[channel], 0);
                }
            }
            return had;
        }

        private int deleteCue(int index) {
            Cue removed = rows[index];
            int had = 0;
            for (int channel = 0; channel < CHANNELS; channel++) {
                if (removed.told[channel] != NO_INSTRUCTION) {
                    deleteInstruction(index, channel);
                    had++;
                }
            }
            count--;
            for (int at = index; at < count; at++) {
                rows[at] = rows[at + 1];
            }
            rows[count] = removed;
            return had;
        }

        // -- accounts

        int sumOfMoving() {
            int moving = 0;
            for (int index = 0; index < count; index++) {
                moving += Integer.bitCount(movingSet(index));
            }
            return moving;
        }

        int protectedCount() {
            int found = 0;
            for (int index = 0; index < count; index++) {
                if (rows[index].isProtected) {
                    found++;
                }
            }
            return found;
        }

        int blockCount() {
            int found = 0;
            for (int index = 0; index < count; index++) {
                if (rows[index].isBlock) {
                    found++;
                }
            }
            return found;
        }

        int releaseCount() {
            int found = 0;
            for (int place = 0; place < listed; place++) {
                if (listedLevel(place) == RELEASE) {
                    found++;
                }
            }
            return found;
        }
    }

    /** The fades, the cue that went last, and the time. */
    private static final class Playback {
        final int[] starts = new int[CHANNELS];
        final int[] targets = new int[CHANNELS];
        /** How many tenths had passed in all when the fade began. */
        final int[] begins = new int[CHANNELS];
        final int[] delays = new int[CHANNELS];
        final int[] times = new int[CHANNELS];
        /** 0 as long as no cue went, which is below the number of any cue. */
        int lastNumber;
        int lastWentAt;
        int wentCount;
        int passed;

        void makeNew() {
            for (int channel = 0; channel < CHANNELS; channel++) {
                starts[channel] = 0;
                targets[channel] = 0;
                begins[channel] = 0;
                delays[channel] = 0;
                times[channel] = 0;
            }
            lastNumber = 0;
            lastWentAt = 0;
            wentCount = 0;
            passed = 0;
        }

        void copyFrom(Playback other) {
            System.arraycopy(other.starts, 0, starts, 0, CHANNELS);
            System.arraycopy(other.targets, 0, targets, 0, CHANNELS);
            System.arraycopy(other.begins, 0, begins, 0, CHANNELS);
            System.arraycopy(other.delays, 0, delays, 0, CHANNELS);
            System.arraycopy(other.times, 0, times, 0, CHANNELS);
            lastNumber = other.lastNumber;
            lastWentAt = other.lastWentAt;
            wentCount = other.wentCount;
            passed = other.passed;
        }

        int presentLevel(int channel) {
            int time = times[channel];
            int gone = passed - begins[channel] - delays[channel];
            if (gone >= time) {
                return targets[channel];
            }
            if (gone <= 0 || time <= 0) {
                return starts[channel];
            }
            return starts[channel] + (targets[channel] - starts[channel]) * gone / time;
        }

        boolean isFading(int channel) {
            return passed - begins[channel] < delays[channel] + times[channel];
        }

        int fadingSet() {
            int fading = 0;
            for (int channel = 0; channel < CHANNELS; channel++) {
                if (isFading(channel)) {
                    fading |= 1 << channel;
                }
            }
            return fading;
        }

        int sumOfPresent() {
            int total = 0;
            for (int channel = 0; channel < CHANNELS; channel++) {
                total += presentLevel(channel);
            }
            return total;
        }

        int sumOfTargets() {
            int total = 0;
            for (int channel = 0; channel < CHANNELS; channel++) {
                total += targets[channel];
            }
            return total;
        }

        int nextIndex(CueList cues) {
            for (int index = 0; index < cues.count; index++) {
                if (cues.rows[index].number > lastNumber) {
                    return index;
                }
            }
            return -1;
        }

        int nextNumber(CueList cues) {
            int index = nextIndex(cues);
            return index < 0 ? 0 : cues.rows[index].number;
        }

        int lowerIndex(CueList cues) {
            for (int index = cues.count - 1; index >= 0; index--) {
                if (cues.rows[index].number < lastNumber) {
                    return index;
                }
            }
            return -1;
        }

        int tenthsSinceLast() {
            return lastNumber == 0 ? 0 : passed - lastWentAt;
        }

        /** -1 for never, else at least 1: a follow time counts only when a tenth has passed. */
        int tenthsToFollow(CueList cues) {
            int last = cues.indexOf(lastNumber);
            if (last < 0 || last + 1 >= cues.count) {
                return -1;
            }
            int followTime = cues.rows[last].followTime;
            return followTime == NO_FOLLOW ? -1 : Math.max(1, followTime - tenthsSinceLast());
        }

        /** Returns how many channels begin a fade. */
        int letGo(CueList cues, int index) {
            Cue cue = cues.rows[index];
            int begun = 0;
            for (int channel = 0; channel < CHANNELS; channel++) {
                int level = cues.levelIn(index, channel);
                if (level != targets[channel]) {
                    int part = cue.partFor(channel);
                    beginFade(channel, level, cue.delays[part], cue.times[part]);
                    begun++;
                }
            }
            lastNumber = cue.number;
            lastWentAt = passed;
            wentCount++;
            return begun;
        }

        private void beginFade(int channel, int level, int delay, int time) {
            starts[channel] = presentLevel(channel);
            targets[channel] = level;
            begins[channel] = passed;
            delays[channel] = delay;
            times[channel] = time;
        }

        boolean hasTimeFor(int tenths) {
            return passed + tenths <= MAX_PASSED;
        }

        /** Returns how many cues go. Between two of them nothing depends on the single tenths. */
        int letPass(CueList cues, int tenths) {
            int went = 0;
            int left = tenths;
            while (left > 0) {
                int wait = tenthsToFollow(cues);
                int next = nextIndex(cues);
                if (next < 0 || wait < 1 || wait > left) {
                    passed += left;
                    return went;
                }
                passed += wait;
                left -= wait;
                letGo(cues, next);
                went++;
            }
            return went;
        }
    }

    /** All that the history remembers for a change. */
    private static final class Show {
        final CueList cues = new CueList();
        final Playback playback = new Playback();

        void makeNew() {
            cues.makeNew();
            playback.makeNew();
        }

        void copyFrom(Show other) {
            cues.copyFrom(other.cues);
            playback.copyFrom(other.playback);
        }
    }

    /** A ring of shows with one row more than changes, so that one of them is always free. */
    private static final class History {
        private static final int ROWS = MAX_CHANGES + 1;

        final Show[] rows = new Show[ROWS];
        int free;
        int remembered;

        History() {
            for (int row = 0; row < ROWS; row++) {
                rows[row] = new Show();
            }
        }

        void remember(Show show) {
            prepare(show);
            countPrepared();
        }

        /** What is prepared counts as a change only later, because it may fail. */
        void prepare(Show show) {
            rows[free].copyFrom(show);
        }

        void takePrepared(Show show) {
            show.copyFrom(rows[free]);
        }

        void countPrepared() {
            free = (free + 1) % ROWS;
            remembered = Math.min(remembered + 1, MAX_CHANGES);
        }

        void takeLatest(Show show) {
            free = (free + ROWS - 1) % ROWS;
            remembered--;
            show.copyFrom(rows[free]);
        }

        void forgetAll() {
            remembered = 0;
        }
    }

    /** The input, and the entry of it that was read last. */
    private static final class Input {
        private static final int MAX_NUMBERS = 3;

        final char[] signs = new char[MAX_INPUT];
        int length;
        int at;
        char kind;
        final int[] numbers = new int[MAX_NUMBERS];

        /** Returns -1 if the input is not a text; at is then the error position. */
        int countEntries() {
            at = 0;
            for (int entries = 1; entries <= MAX_INPUT; entries++) {
                if (!readEntry()) {
                    return -1;
                }
                if (at >= length) {
                    return entries;
                }
            }
            return -1;
        }

        /** If there is no entry here, at is behind all that can begin one. */
        boolean readEntry() {
            if (at >= length) {
                return false;
            }
            kind = signs[at];
            int wanted = numberCount(kind);
            if (wanted < 0) {
                return false;
            }
            at++;
            for (int place = 0; place < wanted; place++) {
                if (place > 0 && !readSign(place == 1 ? '/' : '@')) {
                    return false;
                }
                if (!readNumber(place)) {
                    return false;
                }
            }
            return readSign(';');
        }

        private static int numberCount(char kind) {
            switch (kind) {
                case 'g': return 0;
                case 'c': return 1;
                case 'x': return 1;
                case 'j': return 1;
                case 't': return 1;
                case 'r': return 2;
                case 's': return 3;
                default: return -1;
            }
        }

        private int mostDigits(int place) {
            if (kind == 't') {
                return 4;
            }
            return place == 2 ? 3 : 2;
        }

        private boolean readSign(char sign) {
            if (at >= length || signs[at] != sign) {
                return false;
            }
            at++;
            return true;
        }

        private boolean readNumber(int place) {
            int digits = 0;
            int number = 0;
            while (digits < mostDigits(place) && at < length && isDigit(signs[at])) {
                number = number * 10 + (signs[at] - '0');
                digits++;
                at++;
            }
            numbers[place] = number;
            return digits > 0;
        }

        private static boolean isDigit(char sign) {
            return sign >= '0' && sign <= '9';
        }
    }
}
