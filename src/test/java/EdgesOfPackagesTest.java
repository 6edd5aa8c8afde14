/** Promises 1 to 5, 10 and 13, and the terms of packages: a test of its own for each sentence that names an edge. */
public final class EdgesOfPackagesTest {
    private static final Checks checks = new Checks();
    private static final String[] BY_WEIGHT = {"docs: a", "fix: a", "feat: a", "feat!: a"};

    public static void main(String[] args) {
        newHasNoPackages();
        newHasSettingOne();
        tenPackagesNumberedFromZero();
        noPackageBeyondTen();
        partsBelowZeroOrBeyond99();
        partsBeyond99LaterOn();
        refusedPackTakesNoNumber();
        noPreAtFirst();
        presOfOneAndMore();
        rangeExact();
        rangeExactWithPre();
        rangeOfMajorAndMinor();
        rangeOfMajor();
        rangeAny();
        needInPlaceOfTheOneBefore();
        needOfNoneSuch();
        needOfItself();
        needByNoRange();
        needToEachOtherPackage();
        settingsZeroToTwo();
        settingRefused();
        preOfNoneSuch();
        preOnAndOff();
        faceOfNoneSuch();
        faceSaidTwice();
        versionOfNoneSuch();
        versionOfAnotherPart();
        checks.end();
    }

    private static BumpNotes onePack(int major, int minor, int patch) {
        BumpNotes x = new BumpNotes();
        x.pack(major, minor, patch);
        return x;
    }

    private static void newHasNoPackages() {
        checks.by("Promise 1: No PACKAGES");
        BumpNotes x = new BumpNotes();
        checks.due("bump(0)", x.bump(0), -1);
        checks.due("version(0, 0)", x.version(0, 0), -1);
        checks.due("tag(0)", x.tag(0), -1);
        checks.due("change(0)", Checks.change(x, 0, "feat: a"), -1);
        checks.due("revert(0)", Checks.revert(x, 0, "feat: a"), -1);
        checks.due("needs(0, 1, 3)", x.needs(0, 1, 3), false);
        checks.due("squash(0, 1)", x.squash(0, 1), false);
        checks.due("pre(0)", x.pre(0, true), false);
        checks.due("face(0)", x.face(0), false);
        checks.due("about(0, 0)", x.about(0, 0), -1);
        checks.due("run()", x.run(), 0);
        checks.due("note(0)", x.note(0), -1);
        checks.due("told(0)", x.told(0), -1);
        checks.due("the first pack()", x.pack(0, 0, 0), 0);
    }

    private static void newHasSettingOne() {
        checks.by("Promise 1: SETTING 1");
        BumpNotes x = onePack(1, 0, 0);
        Checks.change(x, 0, "loose");
        checks.due("weight", x.about(0, 1), 1);
        x.run();
        checks.due("bump", x.bump(0), 1);
    }

    private static void tenPackagesNumberedFromZero() {
        checks.by("Terms: PACKAGES, at most 10, numbered from 0");
        BumpNotes x = new BumpNotes();
        for (int i = 0; i < 10; i++) {
            checks.due("pack " + i, x.pack(10 + i, 20 + i, 30 + i), i);
        }
        for (int i = 0; i < 10; i++) {
            checks.due("version of " + i, Checks.version(x, i), (10 + i) + "." + (20 + i) + "." + (30 + i) + "-0");
        }
        Checks.change(x, 9, "fix: a");
        checks.due("run by the tenth one", x.run(), 1);
        checks.due("bump of the tenth one", x.bump(9), 1);
    }

    private static void noPackageBeyondTen() {
        checks.by("Promise 2: NONE if there are 10");
        BumpNotes x = Checks.withPacks(10);
        checks.due("pack 10", x.pack(2, 2, 2), -1);
        checks.due("pack 10 again", x.pack(0, 0, 0), -1);
        checks.due("version of 10", Checks.version(x, 10), "-1.-1.-1--1");
        for (int i = 0; i < 10; i++) {
            checks.due("version of " + i, Checks.version(x, i), "1.0.0-0");
        }
    }

    private static void partsBelowZeroOrBeyond99() {
        checks.by("Promise 2: NONE if something isn't 0 .. 99");
        int[] wrong = {-1, 100, -99, 101, 256, Integer.MIN_VALUE, Integer.MAX_VALUE};
        for (int part : wrong) {
            BumpNotes x = new BumpNotes();
            checks.due("major " + part, x.pack(part, 1, 1), -1);
            checks.due("minor " + part, x.pack(1, part, 1), -1);
            checks.due("patch " + part, x.pack(1, 1, part), -1);
        }
        int[] right = {0, 1, 98, 99};
        for (int part : right) {
            BumpNotes x = new BumpNotes();
            checks.due("major " + part, x.pack(part, 1, 2), 0);
            checks.due("minor " + part, x.pack(1, part, 2), 1);
            checks.due("patch " + part, x.pack(1, 2, part), 2);
            checks.due("version by major " + part, Checks.version(x, 0), part + ".1.2-0");
            checks.due("version by minor " + part, Checks.version(x, 1), "1." + part + ".2-0");
            checks.due("version by patch " + part, Checks.version(x, 2), "1.2." + part + "-0");
        }
    }

    private static void partsBeyond99LaterOn() {
        checks.by("Terms: 0 .. 99 each at first");
        String[] want = {"99.99.99-0", "99.99.100-0", "99.100.0-0", "100.0.0-0"};
        for (int weight = 1; weight < 4; weight++) {
            BumpNotes x = onePack(99, 99, 99);
            Checks.change(x, 0, BY_WEIGHT[weight]);
            x.run();
            checks.due("version by " + BY_WEIGHT[weight], Checks.version(x, 0), want[weight]);
        }
    }

    private static void refusedPackTakesNoNumber() {
        checks.by("Promise 2: A new PACKAGE: its number");
        BumpNotes x = new BumpNotes();
        x.pack(-1, 0, 0);
        checks.due("the first one", x.pack(1, 1, 1), 0);
        x.pack(0, 100, 0);
        checks.due("none came", x.bump(1), -1);
        checks.due("the second one", x.pack(1, 1, 1), 1);
    }

    private static void noPreAtFirst() {
        checks.by("Terms: PRE 0: none");
        BumpNotes x = onePack(1, 2, 3);
        checks.due("at first", x.version(0, 3), 0);
        x.pre(0, true);
        checks.due("in PRE mode", x.version(0, 3), 0);
    }

    private static void presOfOneAndMore() {
        checks.by("Terms: PRE 1 and more");
        BumpNotes x = onePack(1, 0, 0);
        x.pre(0, true);
        for (int i = 1; i <= 60; i++) {
            Checks.change(x, 0, "fix: a");
            x.run();
            checks.due("PRE by run " + i, Checks.version(x, 0), "1.0.1-" + i);
        }
    }

    private static void expectCarried(int range, int weight, int want) {
        BumpNotes x = onePack(1, 0, 0);
        x.pack(1, 0, 0);
        x.needs(1, 0, range);
        Checks.change(x, 0, BY_WEIGHT[weight]);
        checks.due("run by " + BY_WEIGHT[weight], x.run(), Math.min(weight, 1) + want);
        checks.due("carried by " + BY_WEIGHT[weight], x.bump(1), want);
    }

    private static void rangeExact() {
        checks.by("Terms: RANGE 0 exact");
        expectCarried(0, 0, 0);
        expectCarried(0, 1, 1);
        expectCarried(0, 2, 1);
        expectCarried(0, 3, 1);
    }

    /** The next PRE of a row, and the end of the row, differ from the one before in their PRE alone. */
    private static void rangeExactWithPre() {
        checks.by("Terms: RANGE 0 exact (PRE, too)");
        BumpNotes x = Checks.withPacks(4);
        for (int range = 0; range < 3; range++) {
            x.needs(1 + range, 0, range);
        }
        x.pre(0, true);
        Checks.change(x, 0, "fix: a");
        x.run();
        Checks.change(x, 0, "fix: a");
        checks.due("run by the next PRE", x.run(), 2);
        checks.due("carried by the next PRE", x.bump(1), 1);
        x.pre(0, false);
        Checks.change(x, 0, "fix: a");
        checks.due("run by the end of the row", x.run(), 2);
        checks.due("version at the end of the row", Checks.version(x, 0), "1.0.1-0");
        checks.due("carried by the end of the row", x.bump(1), 1);
    }

    private static void rangeOfMajorAndMinor() {
        checks.by("Terms: RANGE 1 same MAJOR and MINOR");
        expectCarried(1, 1, 0);
        expectCarried(1, 2, 1);
        // From 1.0.0 to 2.0.0: the MINOR is the same one.
        expectCarried(1, 3, 1);
    }

    private static void rangeOfMajor() {
        checks.by("Terms: RANGE 2 same MAJOR");
        expectCarried(2, 1, 0);
        expectCarried(2, 2, 0);
        expectCarried(2, 3, 1);
        BumpNotes x = onePack(0, 9, 9);
        x.pack(1, 0, 0);
        x.needs(1, 0, 2);
        Checks.change(x, 0, "feat!: a");
        checks.due("run by a break of MAJOR 0", x.run(), 1);
        checks.due("carried by a break of MAJOR 0", x.bump(1), 0);
    }

    private static void rangeAny() {
        checks.by("Terms: RANGE 3 any");
        expectCarried(3, 1, 0);
        expectCarried(3, 2, 0);
        expectCarried(3, 3, 0);
    }

    private static void needInPlaceOfTheOneBefore() {
        checks.by("Promise 3: in place of the one before");
        BumpNotes x = Checks.withPacks(2);
        checks.due("exact", x.needs(0, 1, 0), true);
        checks.due("any", x.needs(0, 1, 3), true);
        Checks.change(x, 1, "feat!: a");
        checks.due("run with any in place of exact", x.run(), 1);
        checks.due("exact again", x.needs(0, 1, 0), true);
        Checks.change(x, 1, "fix: a");
        checks.due("run with exact in place of any", x.run(), 2);
    }

    private static void needOfNoneSuch() {
        checks.by("Promise 3: false if there are none such");
        BumpNotes x = Checks.withPacks(3);
        for (int none : Checks.numbersOfNone(3, 10)) {
            checks.due("needs(" + none + ", 0, 0)", x.needs(none, 0, 0), false);
            checks.due("needs(0, " + none + ", 0)", x.needs(0, none, 0), false);
            checks.due("needs of none, both " + none, x.needs(none, none, 0), false);
        }
        x.pack(1, 0, 0);
        Checks.change(x, 3, "feat!: a");
        checks.due("a refused need of one that came later", x.run(), 1);
    }

    private static void needOfItself() {
        checks.by("Promise 3: false if they are one");
        BumpNotes x = Checks.withPacks(10);
        for (int pack = 0; pack < 10; pack++) {
            checks.due("needs of itself, " + pack, x.needs(pack, pack, 0), false);
        }
    }

    private static void needByNoRange() {
        checks.by("Promise 3: false if it is no RANGE");
        BumpNotes x = Checks.withPacks(2);
        x.needs(0, 1, 0);
        int[] wrong = {-1, 4, 5, Integer.MIN_VALUE, Integer.MAX_VALUE};
        for (int range : wrong) {
            checks.due("range " + range, x.needs(0, 1, range), false);
        }
        Checks.change(x, 1, "fix: a");
        checks.due("the need before is still there", x.run(), 2);
        for (int range = 0; range < 4; range++) {
            checks.due("range " + range, x.needs(0, 1, range), true);
        }
    }

    private static void needToEachOtherPackage() {
        checks.by("Terms: One may NEED others, each with a RANGE");
        for (int broken = 0; broken < 9; broken++) {
            BumpNotes x = Checks.withPacks(10);
            for (int other = 0; other < 9; other++) {
                checks.due("needs " + other, x.needs(9, other, other == broken ? 0 : 1), true);
            }
            for (int other = 0; other < 9; other++) {
                Checks.change(x, other, other == broken ? "docs: a" : "fix: a");
            }
            checks.due("run, all but the exact one", x.run(), 8);
            Checks.change(x, broken, "fix: a");
            checks.due("run, the exact one", x.run(), 2);
            checks.due("carried by the exact one", x.bump(9), 1);
        }
    }

    private static void settingsZeroToTwo() {
        checks.by("Promise 4: SETTING 0 .. 2");
        BumpNotes x = Checks.withPacks(1);
        for (int v = 0; v < 3; v++) {
            checks.due("setting " + v, x.setting(v), true);
            checks.due("weight by setting " + v, x.about(Checks.change(x, 0, "loose"), 1), v);
        }
    }

    private static void settingRefused() {
        checks.by("Promise 4: false if it isn't so");
        int[] wrong = {-1, 3, 4, Integer.MIN_VALUE, Integer.MAX_VALUE};
        for (int v : wrong) {
            BumpNotes x = Checks.withPacks(1);
            x.setting(2);
            checks.due("setting " + v, x.setting(v), false);
            Checks.change(x, 0, "loose");
            checks.due("the setting before is still there", x.about(0, 1), 2);
        }
    }

    private static void preOfNoneSuch() {
        checks.by("Promise 5: false if there is none such");
        BumpNotes x = Checks.withPacks(1);
        for (int none : Checks.numbersOfNone(1, 10)) {
            checks.due("pre on of " + none, x.pre(none, true), false);
            checks.due("pre off of " + none, x.pre(none, false), false);
        }
        x.pre(1, true);
        x.pack(1, 0, 0);
        Checks.change(x, 0, "fix: a");
        Checks.change(x, 1, "fix: a");
        x.run();
        checks.due("no PRE mode of the one that is there", Checks.version(x, 0), "1.0.1-0");
        checks.due("no PRE mode of one that came later", Checks.version(x, 1), "1.0.1-0");
    }

    private static void preOnAndOff() {
        checks.by("Promise 5: PRE mode of a PACKAGE");
        BumpNotes x = Checks.withPacks(10);
        checks.due("on", x.pre(9, true), true);
        checks.due("on again", x.pre(9, true), true);
        Checks.change(x, 9, "fix: a");
        Checks.change(x, 8, "fix: a");
        x.run();
        checks.due("in PRE mode", Checks.version(x, 9), "1.0.1-1");
        checks.due("its neighbour", Checks.version(x, 8), "1.0.1-0");
        checks.due("off", x.pre(9, false), true);
        checks.due("off again", x.pre(9, false), true);
        checks.due("the mode alone changes no version", Checks.version(x, 9), "1.0.1-1");
    }

    private static void faceOfNoneSuch() {
        checks.by("Promise 10: false if there is none such");
        BumpNotes x = Checks.withPacks(1);
        for (int none : Checks.numbersOfNone(1, 10)) {
            checks.due("face of " + none, x.face(none), false);
        }
        x.pack(1, 0, 0);
        x.run();
        checks.due("none is told", Checks.told(x), "");
    }

    private static void faceSaidTwice() {
        checks.by("Promise 10: A PACKAGE's public face is said to break");
        BumpNotes x = Checks.withPacks(10);
        checks.due("face of 9", x.face(9), true);
        checks.due("face of 9 again", x.face(9), true);
        checks.due("face of 0", x.face(0), true);
        x.run();
        checks.due("told once each", Checks.told(x), "0 9");
    }

    private static void versionOfNoneSuch() {
        checks.by("Promise 13: NONE if there is none such");
        BumpNotes x = Checks.withPacks(2);
        for (int none : Checks.numbersOfNone(2, 10)) {
            checks.due("version of " + none, Checks.version(x, none), "-1.-1.-1--1");
        }
    }

    private static void versionOfAnotherPart() {
        checks.by("Promise 13: NONE for another part");
        BumpNotes x = onePack(4, 5, 6);
        int[] wrong = {-1, 4, 5, Integer.MIN_VALUE, Integer.MAX_VALUE};
        for (int part : wrong) {
            checks.due("part " + part, x.version(0, part), -1);
        }
        checks.due("the parts that there are", Checks.version(x, 0), "4.5.6-0");
    }
}
