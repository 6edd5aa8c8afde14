import java.util.Arrays;

/** Versions from changes; the promises that it keeps are numbered in the document of the project. */
public final class BumpNotes {
    public static final int NONE = -1;

    private static final int IS_OUT = -2;

    private static final int MOST_PACKS = 10;
    private static final int MOST_CHANGES = 60;
    private static final int MOST_CHARACTERS = 60;
    private static final int MOST_TAGS = 100;
    private static final int MOST_AT_FIRST = 99;

    private static final int LOOSE_AS_FIX = 1;
    private static final int LOOSE_AS_FEAT = 2;

    private static final int RANGE_EXACT = 0;
    private static final int RANGE_SAME_MINOR = 1;
    private static final int RANGE_SAME_MAJOR = 2;
    private static final int RANGE_ANY = 3;

    private static final int WEIGHT_PATCH = 1;
    private static final int WEIGHT_MINOR = 2;
    private static final int WEIGHT_BREAK = 3;

    private static final int KINDS = 6;
    private static final int[] WEIGHT_OF_KIND = {2, 1, 1, 0, 0, 0};

    private static final int GROUP_BREAK = 0;
    private static final int GROUP_LOOSE = KINDS + 1;

    // The rows of packs, changes and tags are filled from the left: the first null ends each of them.
    private final Pack[] packs = new Pack[MOST_PACKS];
    private int packCount = 0;
    private final Change[] changes = new Change[MOST_CHANGES];
    private int changeCount = 0;
    private final Tag[] tags = new Tag[MOST_TAGS];
    private int tagCount = 0;
    private final Tape tape = new Tape();
    private final Reader reader = new Reader();
    private final Row notes = new Row(MOST_CHANGES);
    private final Row breaksTold = new Row(MOST_PACKS);
    private int looseWeight = LOOSE_AS_FIX;
    private int runs = 0;

    public BumpNotes() {
    }

    public int pack(int major, int minor, int patch) {
        if (packCount >= packs.length || !isFirstPart(major) || !isFirstPart(minor) || !isFirstPart(patch)) {
            return NONE;
        }
        int number = packCount;
        packs[number] = new Pack(number, major, minor, patch);
        packCount++;
        return number;
    }

    public boolean needs(int pack, int other, int range) {
        Pack needing = packAt(pack);
        if (needing == null || packAt(other) == null || pack == other) {
            return false;
        }
        if (range < RANGE_EXACT || range > RANGE_ANY) {
            return false;
        }
        needing.bindTo(other, range);
        return true;
    }

    public boolean setting(int v) {
        if (v < 0 || v > LOOSE_AS_FEAT) {
            return false;
        }
        looseWeight = v;
        return true;
    }

    public boolean pre(int pack, boolean on) {
        Pack one = packAt(pack);
        if (one == null) {
            return false;
        }
        one.preMode = on;
        return true;
    }

    public boolean text(long w) {
        return tape.take(w);
    }

    public int change(int pack) {
        int number = packAt(pack) == null ? NONE : addChange(pack);
        tape.empty();
        return number;
    }

    public int revert(int change) {
        int number = addReverting(changeAt(change));
        tape.empty();
        return number;
    }

    public boolean squash(int change, int into) {
        Change one = changeAt(change);
        Change other = changeAt(into);
        if (one == null || other == null || change == into || one.pack != other.pack) {
            return false;
        }
        if (!one.isPending() || !other.isPending()) {
            return false;
        }
        one.out = true;
        other.weight = Math.max(one.weight, other.weight);
        return true;
    }

    public boolean face(int pack) {
        Pack one = packAt(pack);
        if (one == null) {
            return false;
        }
        one.faceBroken = true;
        return true;
    }

    public int run() {
        runs++;
        bumpByChanges();
        bumpByNeeds();
        releaseChanges();
        writeNotes();
        tellBreaks();
        return countBumped();
    }

    public int bump(int pack) {
        Pack one = packAt(pack);
        return one == null ? NONE : one.bump;
    }

    public int version(int pack, int part) {
        Pack one = packAt(pack);
        return one == null ? NONE : one.now.part(part);
    }

    public int about(int change, int what) {
        Change one = changeAt(change);
        return one == null ? NONE : one.detail(what);
    }

    public int note(int i) {
        return notes.at(i);
    }

    public int told(int i) {
        return breaksTold.at(i);
    }

    public int tag(int pack) {
        Pack one = packAt(pack);
        if (one == null) {
            return NONE;
        }
        if (isTagged(one)) {
            return 0;
        }
        if (tagCount >= tags.length) {
            return NONE;
        }
        tags[tagCount] = new Tag(one);
        tagCount++;
        return 1;
    }

    private static boolean isFirstPart(int part) {
        return part >= 0 && part <= MOST_AT_FIRST;
    }

    /** The package of that number, or null. */
    private Pack packAt(int number) {
        return number >= 0 && number < packs.length ? packs[number] : null;
    }

    /** The change of that number, or null. */
    private Change changeAt(int number) {
        return number >= 0 && number < changes.length ? changes[number] : null;
    }

    private int addChange(int pack) {
        if (changeCount >= changes.length) {
            return NONE;
        }
        int number = changeCount;
        reader.read(tape, looseWeight);
        changes[number] = new Change(number, pack, reader);
        changeCount++;
        return number;
    }

    private int addReverting(Change reverted) {
        if (reverted == null || changeCount >= changes.length) {
            return NONE;
        }
        if (reverted.out) {
            return IS_OUT;
        }
        int number = addChange(reverted.pack);
        Change reverting = changeAt(number);
        if (reverting != null) {
            takeBack(reverted, reverting);
        }
        return number;
    }

    private static void takeBack(Change reverted, Change reverting) {
        if (reverted.isReleased()) {
            reverting.weight = WEIGHT_PATCH;
            return;
        }
        reverted.out = true;
        reverting.out = true;
    }

    private boolean isTagged(Pack one) {
        for (Tag tag : tags) {
            if (tag == null) {
                break;
            }
            if (tag.isFor(one)) {
                return true;
            }
        }
        return false;
    }

    private void bumpByChanges() {
        for (Pack one : packs) {
            if (one == null) {
                break;
            }
            one.beginRun();
            one.takeBump(greatestPendingWeight(one.number));
        }
    }

    private int greatestPendingWeight(int pack) {
        int greatest = 0;
        for (Change change : changes) {
            if (change == null) {
                break;
            }
            if (change.pack == pack && change.isPending()) {
                greatest = Math.max(greatest, change.weight);
            }
        }
        return greatest;
    }

    private void bumpByNeeds() {
        // Each round but the last one bumps a package that had no bump, so there can't be more rounds than packages.
        for (int round = 0; round < MOST_PACKS; round++) {
            if (!carryOnce()) {
                break;
            }
        }
    }

    private boolean carryOnce() {
        boolean carried = false;
        for (Pack one : packs) {
            if (one == null) {
                break;
            }
            if (one.bump == 0 && hasBrokenNeed(one)) {
                one.takeBump(WEIGHT_PATCH);
                carried = true;
            }
        }
        return carried;
    }

    private boolean hasBrokenNeed(Pack needing) {
        for (Pack other : packs) {
            if (other == null) {
                break;
            }
            if (!other.hasStayedWithin(needing.rangeOf(other.number))) {
                return true;
            }
        }
        return false;
    }

    private void releaseChanges() {
        for (Change change : changes) {
            if (change == null) {
                break;
            }
            Pack owner = packAt(change.pack);
            if (owner != null && owner.bump > 0 && !change.isReleased()) {
                change.releasedBy = runs;
            }
        }
    }

    private void writeNotes() {
        notes.empty();
        for (Pack one : packs) {
            if (one == null) {
                break;
            }
            if (one.bump > 0) {
                writeNotesOf(one.number);
            }
        }
    }

    private void writeNotesOf(int pack) {
        for (int group = GROUP_BREAK; group <= GROUP_LOOSE; group++) {
            for (Change change : changes) {
                if (change == null) {
                    break;
                }
                if (change.pack == pack && change.isNewsOf(runs) && change.group() == group) {
                    notes.add(change.number);
                }
            }
        }
    }

    private void tellBreaks() {
        breaksTold.empty();
        for (Pack one : packs) {
            if (one == null) {
                break;
            }
            if (one.faceBroken && one.bump < WEIGHT_BREAK) {
                breaksTold.add(one.number);
            }
            if (one.bump > 0) {
                one.faceBroken = false;
            }
        }
    }

    private int countBumped() {
        int count = 0;
        for (Pack one : packs) {
            if (one == null) {
                break;
            }
            if (one.bump > 0) {
                count++;
            }
        }
        return count;
    }

    /** A version; it is changed in place, so that a run makes no objects. */
    private static final class Version {
        int major;
        int minor;
        int patch;
        int pre;

        Version(int major, int minor, int patch) {
            this.major = major;
            this.minor = minor;
            this.patch = patch;
            this.pre = 0;
        }

        void copyFrom(Version other) {
            major = other.major;
            minor = other.minor;
            patch = other.patch;
            pre = other.pre;
        }

        int part(int which) {
            switch (which) {
                case 0: return major;
                case 1: return minor;
                case 2: return patch;
                case 3: return pre;
                default: return NONE;
            }
        }

        void raise(int by) {
            if (by == WEIGHT_BREAK && major != 0) {
                major++;
                minor = 0;
                patch = 0;
            } else if (by >= WEIGHT_MINOR) {
                minor++;
                patch = 0;
            } else if (by == WEIGHT_PATCH) {
                patch++;
            }
        }

        boolean isWithin(int range, Version from) {
            switch (range) {
                case RANGE_EXACT: return isSame(from);
                case RANGE_SAME_MINOR: return major == from.major && minor == from.minor;
                case RANGE_SAME_MAJOR: return major == from.major;
                default: return true;
            }
        }

        boolean isSame(Version other) {
            return major == other.major && minor == other.minor && patch == other.patch && pre == other.pre;
        }
    }

    /** A package with its version, its needs and the row of pre-releases that it is in. */
    private static final class Pack {
        final int number;
        final Version now;
        final Version beforeRun;
        final Version aheadOfRow;
        final int[] ranges = new int[MOST_PACKS];
        int greatestOfRow = 0;
        int bump = 0;
        boolean preMode = false;
        boolean faceBroken = false;

        Pack(int number, int major, int minor, int patch) {
            this.number = number;
            this.now = new Version(major, minor, patch);
            this.beforeRun = new Version(major, minor, patch);
            this.aheadOfRow = new Version(major, minor, patch);
            // No need at all binds as little as a need of any version does.
            Arrays.fill(ranges, RANGE_ANY);
        }

        void bindTo(int other, int range) {
            if (other >= 0 && other < ranges.length) {
                ranges[other] = range;
            }
        }

        int rangeOf(int other) {
            return other >= 0 && other < ranges.length ? ranges[other] : RANGE_ANY;
        }

        boolean hasStayedWithin(int range) {
            return now.isWithin(range, beforeRun);
        }

        void beginRun() {
            beforeRun.copyFrom(now);
            bump = 0;
        }

        /** Moves the version on at once: in one run a bump is only ever taken in place of none. */
        void takeBump(int weight) {
            if (weight <= 0) {
                return;
            }
            bump = weight;
            if (now.pre == 0) {
                beginRow();
            }
            if (preMode && bump <= greatestOfRow) {
                now.pre++;
                return;
            }
            greatestOfRow = Math.max(greatestOfRow, bump);
            now.copyFrom(aheadOfRow);
            now.raise(greatestOfRow);
            now.pre = preMode ? 1 : 0;
        }

        /** Outside of pre mode the row is of this one version: it ends as it begins. */
        private void beginRow() {
            aheadOfRow.copyFrom(now);
            greatestOfRow = 0;
        }
    }

    /** A change of a package, as its text says it, and what has become of it. */
    private static final class Change {
        final int number;
        final int pack;
        final int kind;
        final int scopeLength;
        int weight;
        boolean out = false;
        int releasedBy = 0;

        Change(int number, int pack, Reader reader) {
            this.number = number;
            this.pack = pack;
            this.kind = reader.kind;
            this.scopeLength = reader.scopeLength;
            this.weight = reader.weight;
        }

        boolean isReleased() {
            return releasedBy > 0;
        }

        boolean isPending() {
            return !out && !isReleased();
        }

        boolean isNewsOf(int run) {
            return !out && releasedBy == run;
        }

        int group() {
            if (weight == WEIGHT_BREAK) {
                return GROUP_BREAK;
            }
            return kind == NONE ? GROUP_LOOSE : kind + 1;
        }

        int detail(int what) {
            switch (what) {
                case 0: return kind;
                case 1: return weight;
                case 2: return out ? 1 : 0;
                case 3: return releasedBy;
                case 4: return scopeLength;
                default: return NONE;
            }
        }
    }

    /** The characters of the text that comes next. */
    private static final class Tape {
        private static final int HIGHEST_SHIFT = 56;
        private static final int FIRST_CHARACTER = 32;
        private static final int LAST_CHARACTER = 126;

        private final char[] characters = new char[MOST_CHARACTERS];
        private int length = 0;

        boolean take(long w) {
            int count = countCharacters(w);
            if (count == NONE || length + count > characters.length) {
                return false;
            }
            for (int shift = HIGHEST_SHIFT; shift >= 0; shift -= 8) {
                int character = byteOf(w, shift);
                if (character != 0 && length < characters.length) {
                    characters[length] = (char) character;
                    length++;
                }
            }
            return true;
        }

        void empty() {
            length = 0;
        }

        int length() {
            return length;
        }

        /** The character there; 0, which no text has, where there is none. */
        char at(int i) {
            return i >= 0 && i < length && i < characters.length ? characters[i] : 0;
        }

        boolean has(String word, int from) {
            for (int i = 0; i < word.length(); i++) {
                if (at(from + i) != word.charAt(i)) {
                    return false;
                }
            }
            return true;
        }

        int countLetters(int from) {
            int count = 0;
            for (int i = from; i < length; i++) {
                if (at(i) < 'a' || at(i) > 'z') {
                    break;
                }
                count++;
            }
            return count;
        }

        /** How many characters are in it, or NONE if one of them can't be in a text. */
        private static int countCharacters(long w) {
            int count = 0;
            for (int shift = HIGHEST_SHIFT; shift >= 0; shift -= 8) {
                int character = byteOf(w, shift);
                if (character == 0) {
                    continue;
                }
                if (character < FIRST_CHARACTER || character > LAST_CHARACTER) {
                    return NONE;
                }
                count++;
            }
            return count;
        }

        private static int byteOf(long w, int shift) {
            return (int) (w >>> shift) & 0xFF;
        }
    }

    /** Reads a text by the grammar; it holds what it read last, so that one reader serves all texts. */
    private static final class Reader {
        private static final String BREAKING = "BREAKING";

        int kind = NONE;
        int scopeLength = 0;
        int weight = 0;

        void read(Tape tape, int looseWeight) {
            kind = NONE;
            scopeLength = 0;
            weight = looseWeight;
            int found = findKind(tape);
            if (found == NONE) {
                return;
            }
            int at = wordOf(found).length();
            int letters = 0;
            if (tape.at(at) == '(') {
                letters = tape.countLetters(at + 1);
                at += letters + 1;
                if (letters == 0 || tape.at(at) != ')') {
                    return;
                }
                at++;
            }
            boolean marked = tape.at(at) == '!';
            if (marked) {
                at++;
            }
            int subject = at + 2;
            if (tape.at(at) != ':' || tape.at(at + 1) != ' ' || subject >= tape.length()) {
                return;
            }
            kind = found;
            scopeLength = letters;
            weight = marked || endsWithBreaking(tape, subject) ? WEIGHT_BREAK : weightOf(found);
        }

        private static int findKind(Tape tape) {
            for (int i = 0; i < KINDS; i++) {
                if (tape.has(wordOf(i), 0)) {
                    return i;
                }
            }
            return NONE;
        }

        private static String wordOf(int kind) {
            switch (kind) {
                case 0: return "feat";
                case 1: return "fix";
                case 2: return "perf";
                case 3: return "docs";
                case 4: return "test";
                default: return "chore";
            }
        }

        private static int weightOf(int kind) {
            return kind >= 0 && kind < WEIGHT_OF_KIND.length ? WEIGHT_OF_KIND[kind] : 0;
        }

        private static boolean endsWithBreaking(Tape tape, int subject) {
            int start = tape.length() - BREAKING.length();
            if (start < subject || !tape.has(BREAKING, start)) {
                return false;
            }
            return start == subject || tape.at(start - 1) == ' ';
        }
    }

    /** A package's version as it was when it was tagged. */
    private static final class Tag {
        private final int pack;
        private final Version tagged = new Version(0, 0, 0);

        Tag(Pack one) {
            pack = one.number;
            tagged.copyFrom(one.now);
        }

        boolean isFor(Pack one) {
            return pack == one.number && tagged.isSame(one.now);
        }
    }

    /** Numbers in their order, up to a bound; it is emptied and filled again by each run. */
    private static final class Row {
        private final int[] numbers;
        private int size = 0;

        Row(int most) {
            numbers = new int[Math.max(most, 0)];
        }

        void empty() {
            size = 0;
        }

        void add(int number) {
            if (size < numbers.length) {
                numbers[size] = number;
                size++;
            }
        }

        int at(int i) {
            return i >= 0 && i < size && i < numbers.length ? numbers[i] : NONE;
        }
    }
}
