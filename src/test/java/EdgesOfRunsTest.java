/** Promises 11, 12 and 15 to 17, and the terms of runs: a test of its own for each sentence that names an edge. */
public final class EdgesOfRunsTest {
    private static final Checks checks = new Checks();

    public static void main(String[] args) {
        noBumpWithoutChanges();
        noBumpByReleasedOnes();
        noBumpByThoseThatAreOut();
        noBumpByWeightZero();
        greatestWeight();
        carriedAsLongAsSomethingChanges();
        carriedInARing();
        carriedOneAtLeast();
        carriedFromTheVersionBeforeTheRun();
        noBumpLeavesTheVersion();
        rowOfPresBegins();
        bumpGreaterThanAllOfTheRow();
        bumpNotGreaterThanAllOfTheRow();
        rowEnds();
        rowOfAnotherRow();
        noPreMode();
        raisedByThree();
        raisedByThreeAsLongAsMajorIsZero();
        raisedByTwo();
        raisedByOne();
        runsAreCountedFromOne();
        runsWithoutABumpAreCounted();
        releasedAreThoseThatAreOutToo();
        releasedUnlessTheyWereBefore();
        releasedOfPackagesWithABumpAlone();
        howManyHaveABump();
        bumpBeforeARun();
        bumpByTheLatestRun();
        bumpOfNoneSuch();
        notesByPackageNumbers();
        notesByGroups();
        notesWithoutThoseThatAreOut();
        notesOfThisRunAlone();
        notesOfSixty();
        noteOfNoneSuch();
        toldWithABumpLessThanThree();
        toldWithoutABump();
        toldSinceTheyWereReleasedLast();
        toldNoLongerWithABump();
        toldTen();
        toldOfNoneSuch();
        tagOnceForAVersion();
        tagForEachPackage();
        tagForEachPre();
        tagOfNoneSuch();
        tagBeyondHundred();
        tagThatIsThereAtHundred();
        fiveHundredAndTwelveCalls();
        checks.end();
    }

    private static BumpNotes onePack(int major, int minor, int patch) {
        BumpNotes x = new BumpNotes();
        x.pack(major, minor, patch);
        return x;
    }

    private static String runBy(BumpNotes x, String text) {
        Checks.change(x, 0, text);
        x.run();
        return Checks.version(x, 0);
    }

    private static void expectNoBump(BumpNotes x) {
        checks.due("run", x.run(), 0);
        checks.due("bump", x.bump(0), 0);
    }

    private static void noBumpWithoutChanges() {
        checks.by("Terms: BUMP 0 if there are none");
        BumpNotes x = Checks.withPacks(1);
        expectNoBump(x);
        checks.due("version", Checks.version(x, 0), "1.0.0-0");
        checks.due("run without packages", new BumpNotes().run(), 0);
    }

    private static void noBumpByReleasedOnes() {
        checks.by("Terms: BUMP by CHANGES that aren't RELEASED");
        BumpNotes x = Checks.withPacks(1);
        runBy(x, "feat!: a");
        expectNoBump(x);
        checks.due("a lesser one behind it", runBy(x, "fix: a"), "2.0.1-0");
    }

    private static void noBumpByThoseThatAreOut() {
        checks.by("Terms: BUMP by CHANGES that aren't OUT");
        BumpNotes x = Checks.withPacks(1);
        Checks.change(x, 0, "feat!: a");
        Checks.revert(x, 0, "feat!: b");
        expectNoBump(x);
        checks.due("a lesser one behind it", runBy(x, "fix: a"), "1.0.1-0");
    }

    private static void noBumpByWeightZero() {
        checks.by("Terms: WEIGHT 0 brings no BUMP");
        BumpNotes x = Checks.withPacks(1);
        x.setting(0);
        String[] texts = {"docs: a", "test: a", "chore: a", "loose"};
        for (String text : texts) {
            Checks.change(x, 0, text);
        }
        expectNoBump(x);
    }

    private static void greatestWeight() {
        checks.by("Terms: the greatest WEIGHT of its CHANGES");
        String[] texts = {"docs: a", "fix: a", "feat: a", "feat!: a"};
        for (int first = 0; first < 4; first++) {
            for (int last = 0; last < 4; last++) {
                BumpNotes x = Checks.withPacks(2);
                Checks.change(x, 0, texts[first]);
                Checks.change(x, 1, "feat!: of another one");
                Checks.change(x, 0, texts[last]);
                x.run();
                checks.due("bump by " + texts[first] + ", " + texts[last], x.bump(0), Math.max(first, last));
            }
        }
    }

    private static void carriedAsLongAsSomethingChanges() {
        checks.by("Terms: as long as something changes");
        BumpNotes up = Checks.withPacks(10);
        BumpNotes down = Checks.withPacks(10);
        for (int i = 0; i < 9; i++) {
            up.needs(i + 1, i, 0);
            down.needs(i, i + 1, 0);
        }
        Checks.change(up, 0, "fix: a");
        checks.due("along the numbers", up.run(), 10);
        Checks.change(down, 9, "fix: a");
        checks.due("against the numbers", down.run(), 10);
        for (int pack = 0; pack < 10; pack++) {
            checks.due("along, " + pack, Checks.version(up, pack), "1.0.1-0");
            checks.due("against, " + pack, Checks.version(down, pack), "1.0.1-0");
        }
        up.needs(5, 4, 1);
        Checks.change(up, 0, "fix: a");
        checks.due("no further than a range holds", up.run(), 5);
    }

    private static void carriedInARing() {
        checks.by("Terms: as long as something changes, in a ring");
        BumpNotes x = Checks.withPacks(10);
        for (int i = 0; i < 10; i++) {
            x.needs(i, (i + 1) % 10, 0);
        }
        Checks.change(x, 4, "feat!: a");
        checks.due("run", x.run(), 10);
        checks.due("the first one", Checks.version(x, 4), "2.0.0-0");
        checks.due("the last one", Checks.version(x, 5), "1.0.1-0");
        checks.due("each once", x.bump(3) + " " + x.bump(4) + " " + x.bump(5), "1 3 1");
        checks.due("nothing is left", x.run(), 0);
    }

    private static void carriedOneAtLeast() {
        checks.by("Terms: has a BUMP of 1 at least");
        String[] texts = {"docs: a", "fix: a", "feat: a", "feat!: a"};
        String[] want = {"1.0.1-0", "1.0.1-0", "1.1.0-0", "2.0.0-0"};
        for (int weight = 0; weight < 4; weight++) {
            BumpNotes x = Checks.withPacks(2);
            x.needs(1, 0, 0);
            Checks.change(x, 0, "feat!: a");
            Checks.change(x, 1, texts[weight]);
            x.run();
            checks.due("bump of its own " + texts[weight], x.bump(1), Math.max(weight, 1));
            checks.due("version by its own " + texts[weight], Checks.version(x, 1), want[weight]);
        }
    }

    private static void carriedFromTheVersionBeforeTheRun() {
        checks.by("Terms: from the VERSION that the other one had before the RUN");
        BumpNotes x = Checks.withPacks(2);
        x.needs(1, 0, 1);
        Checks.change(x, 0, "feat: a");
        checks.due("run by a minor", x.run(), 2);
        Checks.change(x, 0, "fix: a");
        checks.due("a patch behind it is in the range", x.run(), 1);
        Checks.change(x, 0, "feat: a");
        checks.due("the next minor is not", x.run(), 2);
        x.needs(1, 0, 0);
        checks.due("an exact need behind the runs", x.run(), 0);
    }

    private static void noBumpLeavesTheVersion() {
        checks.by("Terms: The new VERSION by its BUMP: none: as before");
        BumpNotes x = onePack(1, 2, 3);
        x.run();
        checks.due("without a PRE", Checks.version(x, 0), "1.2.3-0");
        x.pre(0, true);
        x.run();
        checks.due("in PRE mode without a PRE", Checks.version(x, 0), "1.2.3-0");
        runBy(x, "feat: a");
        x.run();
        checks.due("in PRE mode with a PRE", Checks.version(x, 0), "1.3.0-1");
        x.pre(0, false);
        x.run();
        checks.due("not in PRE mode with a PRE", Checks.version(x, 0), "1.3.0-1");
        checks.due("the row is still there", runBy(x, "fix: a"), "1.3.0-0");
    }

    private static void rowOfPresBegins() {
        checks.by("Terms: a row of PRES begins: the VERSION RAISED by its BUMP, and PRE 1");
        String[] texts = {"fix: a", "feat: a", "feat!: a"};
        String[] want = {"1.2.4-1", "1.3.0-1", "2.0.0-1"};
        for (int i = 0; i < texts.length; i++) {
            BumpNotes x = onePack(1, 2, 3);
            x.pre(0, true);
            checks.due("version by " + texts[i], runBy(x, texts[i]), want[i]);
        }
    }

    private static void bumpGreaterThanAllOfTheRow() {
        checks.by("Terms: greater than all of the row: the VERSION ahead of the row RAISED by it, and PRE 1");
        BumpNotes x = onePack(1, 2, 3);
        x.pre(0, true);
        runBy(x, "fix: a");
        checks.due("2 behind 1", runBy(x, "feat: a"), "1.3.0-1");
        checks.due("3 behind 2", runBy(x, "feat!: a"), "2.0.0-1");
        BumpNotes y = onePack(1, 2, 3);
        y.pre(0, true);
        runBy(y, "fix: a");
        runBy(y, "fix: a");
        checks.due("3 behind 1 and 1", runBy(y, "feat!: a"), "2.0.0-1");
        BumpNotes young = onePack(0, 1, 0);
        young.pre(0, true);
        checks.due("2 of MAJOR 0", runBy(young, "feat: a"), "0.2.0-1");
        checks.due("2 again", runBy(young, "feat: a"), "0.2.0-2");
        checks.due("3 behind 2 of MAJOR 0", runBy(young, "feat!: a"), "0.2.0-1");
        checks.due("3 again", runBy(young, "feat!: a"), "0.2.0-2");
    }

    private static void bumpNotGreaterThanAllOfTheRow() {
        checks.by("Terms: else PRE 1 more");
        BumpNotes x = onePack(1, 2, 3);
        x.pre(0, true);
        runBy(x, "feat: a");
        checks.due("less", runBy(x, "fix: a"), "1.3.0-2");
        checks.due("as great as the greatest, greater than the latest", runBy(x, "feat: a"), "1.3.0-3");
        runBy(x, "feat!: a");
        checks.due("behind a greater one", runBy(x, "feat: a"), "2.0.0-2");
        checks.due("as great as the greatest", runBy(x, "feat!: a"), "2.0.0-3");
    }

    private static void rowEnds() {
        checks.by("Terms: RAISED by the greatest BUMP of the row and this one, without a PRE");
        String[] texts = {"fix: a", "feat: a", "feat!: a"};
        String[] want = {"1.2.4-0", "1.3.0-0", "2.0.0-0"};
        for (int first = 0; first < 3; first++) {
            for (int last = 0; last < 3; last++) {
                BumpNotes x = onePack(1, 2, 3);
                x.pre(0, true);
                runBy(x, texts[first]);
                runBy(x, "fix: a");
                x.pre(0, false);
                checks.due("row of " + texts[first] + ", end by " + texts[last], runBy(x, texts[last]),
                    want[Math.max(first, last)]);
            }
        }
    }

    private static void rowOfAnotherRow() {
        checks.by("Terms: a row of PRES begins, behind the end of another one");
        BumpNotes x = onePack(1, 2, 3);
        x.pre(0, true);
        runBy(x, "feat!: a");
        x.pre(0, false);
        checks.due("the end", runBy(x, "fix: a"), "2.0.0-0");
        x.pre(0, true);
        checks.due("the next row", runBy(x, "fix: a"), "2.0.1-1");
        checks.due("greater than all of the next row", runBy(x, "feat: a"), "2.1.0-1");
        x.pre(0, false);
        checks.due("the end of the next row", runBy(x, "fix: a"), "2.1.0-0");
    }

    private static void noPreMode() {
        checks.by("Terms: Else the VERSION RAISED by its BUMP");
        BumpNotes x = onePack(1, 2, 3);
        x.pre(0, true);
        x.pre(0, false);
        checks.due("by 1", runBy(x, "fix: a"), "1.2.4-0");
        checks.due("by 1 again", runBy(x, "fix: a"), "1.2.5-0");
        checks.due("by 2", runBy(x, "feat: a"), "1.3.0-0");
        checks.due("by 1 behind 2", runBy(x, "fix: a"), "1.3.1-0");
        checks.due("by 3", runBy(x, "feat!: a"), "2.0.0-0");
        checks.due("by 2 behind 3", runBy(x, "feat: a"), "2.1.0-0");
    }

    private static void raisedByThree() {
        checks.by("Terms: RAISED by 3: MAJOR 1 more, others 0");
        checks.due("1.2.3", runBy(onePack(1, 2, 3), "feat!: a"), "2.0.0-0");
        checks.due("1.0.0", runBy(onePack(1, 0, 0), "feat!: a"), "2.0.0-0");
        checks.due("98.99.99", runBy(onePack(98, 99, 99), "feat!: a"), "99.0.0-0");
    }

    private static void raisedByThreeAsLongAsMajorIsZero() {
        checks.by("Terms: as long as MAJOR is 0: as by 2");
        BumpNotes x = onePack(0, 2, 3);
        checks.due("once", runBy(x, "feat!: a"), "0.3.0-0");
        checks.due("bump", x.bump(0), 3);
        checks.due("twice", runBy(x, "feat!: a"), "0.4.0-0");
        checks.due("0.0.0", runBy(onePack(0, 0, 0), "feat!: a"), "0.1.0-0");
    }

    private static void raisedByTwo() {
        checks.by("Terms: RAISED by 2: MINOR 1 more, PATCH 0");
        checks.due("1.2.3", runBy(onePack(1, 2, 3), "feat: a"), "1.3.0-0");
        checks.due("0.0.0", runBy(onePack(0, 0, 0), "feat: a"), "0.1.0-0");
    }

    private static void raisedByOne() {
        checks.by("Terms: RAISED by 1: PATCH 1 more");
        checks.due("1.2.3", runBy(onePack(1, 2, 3), "fix: a"), "1.2.4-0");
        checks.due("0.0.0", runBy(onePack(0, 0, 0), "fix: a"), "0.0.1-0");
    }

    private static void runsAreCountedFromOne() {
        checks.by("Terms: RUNS are counted from 1");
        BumpNotes x = Checks.withPacks(1);
        for (int i = 0; i < 60; i++) {
            runBy(x, "fix: a");
            checks.due("run of change " + i, x.about(i, 3), i + 1);
        }
    }

    private static void runsWithoutABumpAreCounted() {
        checks.by("Terms: each one, also without any BUMP");
        BumpNotes x = new BumpNotes();
        x.run();
        x.pack(1, 0, 0);
        x.run();
        Checks.change(x, 0, "docs: a");
        x.run();
        runBy(x, "fix: a");
        checks.due("the fourth run", x.about(1, 3), 4);
    }

    private static void releasedAreThoseThatAreOutToo() {
        checks.by("Terms: RELEASED, also those that are OUT");
        BumpNotes x = Checks.withPacks(1);
        String[] texts = {"feat: a", "fix: b", "docs: c", "fix: d"};
        for (String text : texts) {
            Checks.change(x, 0, text);
        }
        Checks.revert(x, 0, "fix: e");
        x.squash(1, 2);
        x.run();
        for (int change = 0; change < 5; change++) {
            checks.due("run of change " + change, x.about(change, 3), 1);
        }
    }

    private static void releasedUnlessTheyWereBefore() {
        checks.by("Terms: RELEASED, unless they were before");
        BumpNotes x = Checks.withPacks(1);
        Checks.change(x, 0, "feat: a");
        Checks.revert(x, 0, "fix: b");
        runBy(x, "fix: c");
        runBy(x, "fix: d");
        checks.due("the first ones", x.about(0, 3) + " " + x.about(1, 3) + " " + x.about(2, 3), "1 1 1");
        checks.due("the last one", x.about(3, 3), 2);
    }

    private static void releasedOfPackagesWithABumpAlone() {
        checks.by("Terms: RELEASED are all CHANGES of the PACKAGES that have a BUMP");
        BumpNotes x = Checks.withPacks(3);
        x.needs(1, 0, 0);
        Checks.change(x, 0, "fix: a");
        Checks.change(x, 1, "docs: b");
        Checks.change(x, 2, "docs: c");
        x.run();
        checks.due("of a carried bump", x.about(1, 3), 1);
        checks.due("without a bump", x.about(2, 3), 0);
        Checks.change(x, 2, "fix: d");
        x.run();
        checks.due("by the bump that came later", x.about(2, 3), 2);
    }

    private static void howManyHaveABump() {
        checks.by("Promise 11: how many PACKAGES have a BUMP");
        for (int count = 0; count <= 10; count++) {
            BumpNotes x = Checks.withPacks(10);
            for (int pack = 0; pack < count; pack++) {
                Checks.change(x, pack, "feat!: a");
                Checks.change(x, pack, "fix: a");
            }
            checks.due("run of " + count, x.run(), count);
            checks.due("the next run", x.run(), 0);
        }
    }

    private static void bumpBeforeARun() {
        checks.by("Promise 12: 0 before");
        BumpNotes x = Checks.withPacks(1);
        checks.due("a new one", x.bump(0), 0);
        Checks.change(x, 0, "feat!: a");
        checks.due("with a change", x.bump(0), 0);
        x.run();
        x.pack(1, 1, 1);
        checks.due("one that came behind the run", x.bump(1), 0);
    }

    private static void bumpByTheLatestRun() {
        checks.by("Promise 12: by the latest RUN");
        BumpNotes x = Checks.withPacks(1);
        runBy(x, "feat!: a");
        checks.due("by the first run", x.bump(0), 3);
        Checks.change(x, 0, "fix: a");
        checks.due("until the next run", x.bump(0), 3);
        x.run();
        checks.due("by the second run", x.bump(0), 1);
        x.run();
        checks.due("by the third run", x.bump(0), 0);
    }

    private static void bumpOfNoneSuch() {
        checks.by("Promise 12: NONE if there is none such");
        BumpNotes x = Checks.withPacks(2);
        x.run();
        for (int none : Checks.numbersOfNone(2, 10)) {
            checks.due("bump of " + none, x.bump(none), -1);
        }
    }

    private static void notesByPackageNumbers() {
        checks.by("Terms: NOTES for each PACKAGE with a BUMP, by numbers");
        BumpNotes x = Checks.withPacks(10);
        for (int pack = 9; pack >= 0; pack--) {
            Checks.change(x, pack, pack == 5 ? "docs: a" : "fix: a");
        }
        x.run();
        checks.due("notes", Checks.notes(x), "9 8 7 6 5 3 2 1 0");
    }

    private static void notesByGroups() {
        checks.by("Terms: those with WEIGHT 3, then feat, fix, .. LOOSE ones, each group as they came");
        BumpNotes x = Checks.withPacks(1);
        String[] texts = {"loose", "chore: a", "test: a", "docs: a", "perf: a", "fix: a", "feat: a", "chore!: a"};
        for (int round = 0; round < 2; round++) {
            for (String text : texts) {
                Checks.change(x, 0, text);
            }
        }
        Checks.change(x, 0, "loose, with a break squashed into it");
        Checks.change(x, 0, "feat!: a");
        x.squash(17, 16);
        x.run();
        checks.due("notes", Checks.notes(x), "7 15 16 6 14 5 13 4 12 3 11 2 10 1 9 0 8");
    }

    private static void notesWithoutThoseThatAreOut() {
        checks.by("Terms: NOTES: its CHANGES that aren't OUT");
        BumpNotes x = Checks.withPacks(1);
        String[] texts = {"feat!: a", "fix: b", "fix: c", "fix: d"};
        for (String text : texts) {
            Checks.change(x, 0, text);
        }
        Checks.revert(x, 0, "feat!: e");
        x.squash(1, 2);
        x.run();
        checks.due("notes", Checks.notes(x), "2 3");
    }

    private static void notesOfThisRunAlone() {
        checks.by("Promise 15: the NOTES of the latest RUN");
        BumpNotes x = Checks.withPacks(1);
        checks.due("before a run", x.note(0), -1);
        Checks.change(x, 0, "fix: a");
        checks.due("before a run, with a change", x.note(0), -1);
        x.run();
        Checks.change(x, 0, "fix: b");
        checks.due("until the next run", Checks.notes(x), "0");
        x.run();
        checks.due("by the next run", Checks.notes(x), "1");
        x.run();
        checks.due("by a run without a bump", x.note(0), -1);
        Checks.revert(x, 0, "docs: c");
        x.run();
        checks.due("the reverting one alone", Checks.notes(x), "2");
    }

    private static void notesOfSixty() {
        checks.by("Promise 15: The i-th CHANGE, of all 60");
        BumpNotes x = Checks.withPacks(1);
        for (int i = 0; i < 60; i++) {
            Checks.change(x, 0, "fix: a");
        }
        x.run();
        for (int i = 0; i < 60; i++) {
            checks.due("note " + i, x.note(i), i);
        }
        checks.due("note 60", x.note(60), -1);
    }

    private static void noteOfNoneSuch() {
        checks.by("Promise 15: NONE if there is none such");
        BumpNotes x = Checks.withPacks(1);
        Checks.change(x, 0, "fix: a");
        Checks.change(x, 0, "fix: b");
        x.run();
        for (int none : Checks.numbersOfNone(2, 60)) {
            checks.due("note " + none, x.note(none), -1);
        }
        runBy(x, "fix: c");
        checks.due("none of a longer row before", x.note(1), -1);
    }

    private static void toldWithABumpLessThanThree() {
        checks.by("Terms: TOLD with a BUMP that is less than 3");
        BumpNotes x = Checks.withPacks(3);
        String[] texts = {"feat!: a", "feat: a", "fix: a"};
        for (int pack = 0; pack < 3; pack++) {
            x.face(pack);
            Checks.change(x, pack, texts[pack]);
        }
        x.run();
        checks.due("told", Checks.told(x), "1 2");
        BumpNotes young = onePack(0, 1, 0);
        young.face(0);
        runBy(young, "feat!: a");
        checks.due("a BUMP of 3 of MAJOR 0", Checks.told(young), "");
    }

    private static void toldWithoutABump() {
        checks.by("Terms: TOLD with 0, that is none, too");
        BumpNotes x = Checks.withPacks(2);
        x.face(1);
        for (int i = 0; i < 3; i++) {
            x.run();
            checks.due("told by each run without a BUMP", Checks.told(x), "1");
        }
    }

    private static void toldSinceTheyWereReleasedLast() {
        checks.by("Terms: said to break since they were RELEASED last");
        BumpNotes x = Checks.withPacks(1);
        x.face(0);
        runBy(x, "feat!: a");
        checks.due("by a run with the mark", Checks.told(x), "");
        runBy(x, "fix: a");
        checks.due("said ahead of it", Checks.told(x), "");
        x.face(0);
        runBy(x, "fix: a");
        checks.due("said again", Checks.told(x), "0");
        BumpNotes quiet = Checks.withPacks(1);
        runBy(quiet, "fix: a");
        checks.due("never said", Checks.told(quiet), "");
    }

    private static void toldNoLongerWithABump() {
        checks.by("Terms: it is so no longer, if they have a BUMP");
        BumpNotes x = Checks.withPacks(2);
        x.needs(1, 0, 0);
        x.face(0);
        x.face(1);
        Checks.change(x, 0, "fix: a");
        x.run();
        checks.due("told, with a carried BUMP too", Checks.told(x), "0 1");
        x.run();
        checks.due("no longer", Checks.told(x), "");
    }

    private static void toldTen() {
        checks.by("Promise 16: The i-th PACKAGE, of all 10");
        BumpNotes x = Checks.withPacks(10);
        for (int pack = 9; pack >= 0; pack--) {
            x.face(pack);
        }
        x.run();
        checks.due("told by numbers", Checks.told(x), "0 1 2 3 4 5 6 7 8 9");
        checks.due("told 10", x.told(10), -1);
    }

    private static void toldOfNoneSuch() {
        checks.by("Promise 16: NONE if there is none such");
        BumpNotes x = Checks.withPacks(3);
        x.face(1);
        x.face(2);
        checks.due("before a run", x.told(0), -1);
        x.run();
        for (int none : Checks.numbersOfNone(2, 10)) {
            checks.due("told " + none, x.told(none), -1);
        }
        Checks.change(x, 1, "fix!: a");
        x.run();
        checks.due("by the latest run", Checks.told(x), "2");
    }

    private static void tagOnceForAVersion() {
        checks.by("Promise 17: 0 if there is one already");
        BumpNotes x = Checks.withPacks(1);
        checks.due("once", x.tag(0), 1);
        checks.due("twice", x.tag(0), 0);
        checks.due("three times", x.tag(0), 0);
        x.run();
        checks.due("behind a run without a BUMP", x.tag(0), 0);
        runBy(x, "fix: a");
        checks.due("the next version", x.tag(0), 1);
        checks.due("the next version twice", x.tag(0), 0);
    }

    private static void tagForEachPackage() {
        checks.by("Terms: TAGS: one for a PACKAGE and each VERSION");
        BumpNotes x = Checks.withPacks(10);
        for (int pack = 0; pack < 10; pack++) {
            checks.due("the same version of " + pack, x.tag(pack), 1);
        }
        int[][] versions = {{1, 2, 3}, {2, 2, 3}, {1, 3, 3}, {1, 2, 4}};
        BumpNotes y = new BumpNotes();
        for (int[] parts : versions) {
            y.pack(parts[0], parts[1], parts[2]);
        }
        for (int pack = 0; pack < versions.length; pack++) {
            checks.due("version of " + pack, y.tag(pack), 1);
            checks.due("version of " + pack + " twice", y.tag(pack), 0);
        }
        BumpNotes z = onePack(1, 0, 0);
        z.tag(0);
        runBy(z, "feat!: a");
        checks.due("another MAJOR alone", z.tag(0), 1);
        runBy(z, "feat: a");
        checks.due("another MINOR alone", z.tag(0), 1);
        runBy(z, "fix: a");
        checks.due("another PATCH alone", z.tag(0), 1);
    }

    private static void tagForEachPre() {
        checks.by("Terms: a VERSION with another PRE is another one");
        BumpNotes x = Checks.withPacks(1);
        x.pre(0, true);
        for (int i = 1; i <= 3; i++) {
            runBy(x, "fix: a");
            checks.due("PRE " + i, x.tag(0), 1);
            checks.due("PRE " + i + " twice", x.tag(0), 0);
        }
        x.pre(0, false);
        runBy(x, "fix: a");
        checks.due("without a PRE", x.tag(0), 1);
    }

    private static void tagOfNoneSuch() {
        checks.by("Promise 17: - 1 if there is no such PACKAGE");
        BumpNotes x = Checks.withPacks(2);
        for (int none : Checks.numbersOfNone(2, 10)) {
            checks.due("tag of " + none, x.tag(none), -1);
        }
        checks.due("the first one", x.tag(0), 1);
    }

    /** Nine packages need the first one exactly, so that each run brings ten versions to tag. */
    private static BumpNotes withTags(int count) {
        BumpNotes x = Checks.withPacks(10);
        for (int pack = 1; pack < 10; pack++) {
            x.needs(pack, 0, 0);
        }
        for (int i = 0; i < count; i++) {
            if (i > 0 && i % 10 == 0) {
                runBy(x, "fix: a");
            }
            checks.due("tag " + i, x.tag(i % 10), 1);
        }
        return x;
    }

    private static void tagBeyondHundred() {
        checks.by("Promise 17: - 1 if there are 100 TAGS");
        BumpNotes x = withTags(100);
        runBy(x, "fix: a");
        for (int pack = 0; pack < 10; pack++) {
            checks.due("one more, of " + pack, x.tag(pack), -1);
            checks.due("one more, of " + pack + ", again", x.tag(pack), -1);
        }
        checks.due("no such PACKAGE", x.tag(10), -1);
        BumpNotes y = withTags(99);
        checks.due("the 100th", y.tag(9), 1);
    }

    private static void tagThatIsThereAtHundred() {
        checks.by("Promise 17: 0 if there is one already; else - 1 if there are 100 TAGS");
        BumpNotes x = withTags(100);
        for (int pack = 0; pack < 10; pack++) {
            checks.due("one that is there, of " + pack, x.tag(pack), 0);
        }
        Checks.change(x, 9, "fix: a");
        x.run();
        checks.due("one that is not there", x.tag(9), -1);
        checks.due("one that is there still", x.tag(8), 0);
    }

    /** One call for the package, three for each change, and then as many as are left. */
    private static void fiveHundredAndTwelveCalls() {
        checks.by("An object is used for at most 512 calls");
        BumpNotes x = onePack(1, 0, 0);
        int calls = 1;
        for (int i = 0; i < 60; i++) {
            x.text(Checks.word("fix: abc"));
            x.change(0);
            x.run();
            calls += 3;
        }
        for (; calls < 510; calls++) {
            x.run();
        }
        checks.due("call 511", x.version(0, 2), 60);
        checks.due("call 512", x.tag(0), 1);
        BumpNotes runs = onePack(1, 0, 0);
        for (calls = 1; calls < 508; calls++) {
            runs.run();
        }
        runs.text(Checks.word("fix: abc"));
        runs.change(0);
        checks.due("call 511, a run", runs.run(), 1);
        checks.due("call 512, which run it was", runs.about(0, 3), 508);
    }
}
