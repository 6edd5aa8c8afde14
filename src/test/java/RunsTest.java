/** Promises 5, 10 to 12 and 15 to 17: rows of pre-releases, run, bump, notes, told, tags. */
public final class RunsTest {
    private static final Checks checks = new Checks();

    public static void main(String[] args) {
        bumpsByWeight();
        bumpsOfTheLatestRun();
        rowsOfPres();
        rowsKeepTheVersionAheadOfThem();
        rowsOfMajorZero();
        preModeWithoutABump();
        rowsByCarriedBumps();
        notesByGroups();
        notesOfTheLatestRun();
        toldBreaks();
        tags();
        mostTags();
        checks.end();
    }

    private static void release(BumpNotes x, String text, String want) {
        Checks.change(x, 0, text);
        checks.due("run by " + text, x.run(), 1);
        checks.due("version by " + text, Checks.version(x, 0), want);
    }

    private static void bumpsByWeight() {
        BumpNotes x = new BumpNotes();
        checks.due("run without packages", x.run(), 0);
        x.pack(0, 0, 9);
        release(x, "fix: a", "0.0.10-0");
        release(x, "feat: a", "0.1.0-0");
        release(x, "perf: a", "0.1.1-0");
        release(x, "feat!: a", "0.2.0-0");
        checks.due("bump 3 as by 2", x.bump(0), 3);
        BumpNotes y = new BumpNotes();
        y.pack(1, 2, 3);
        release(y, "fix: a", "1.2.4-0");
        release(y, "feat: a", "1.3.0-0");
        release(y, "fix: a", "1.3.1-0");
        release(y, "chore: a BREAKING", "2.0.0-0");
        Checks.change(y, 0, "docs: a");
        checks.due("weight 0 is no bump", y.run(), 0);
        checks.due("not released", y.about(4, 3), 0);
        Checks.change(y, 0, "feat: a");
        Checks.change(y, 0, "fix: a");
        checks.due("the greatest counts", y.run(), 1);
        checks.due("bump", y.bump(0), 2);
        checks.due("version", Checks.version(y, 0), "2.1.0-0");
        checks.due("released with the others", y.about(4, 3), 6);
    }

    private static void bumpsOfTheLatestRun() {
        BumpNotes x = Checks.withPacks(2);
        Checks.change(x, 1, "feat: a");
        checks.due("bump before", x.bump(1), 0);
        x.run();
        checks.due("bump by the run", x.bump(1), 2);
        checks.due("bump of the other one", x.bump(0), 0);
        x.pack(1, 1, 1);
        checks.due("bump of one that came later", x.bump(2), 0);
        Checks.change(x, 0, "fix!: a");
        checks.due("bump until the next run", x.bump(0), 0);
        x.run();
        checks.due("bump by the next run", x.bump(0), 3);
        checks.due("none by the next run", x.bump(1), 0);
    }

    private static void rowsOfPres() {
        BumpNotes x = new BumpNotes();
        x.pack(1, 2, 3);
        x.pre(0, true);
        release(x, "fix: a", "1.2.4-1");
        release(x, "fix: a", "1.2.4-2");
        release(x, "feat: a", "1.3.0-1");
        release(x, "fix: a", "1.3.0-2");
        release(x, "feat: a", "1.3.0-3");
        release(x, "feat!: a", "2.0.0-1");
        release(x, "feat!: a", "2.0.0-2");
        x.pre(0, false);
        release(x, "fix: a", "2.0.0-0");
        release(x, "fix: a", "2.0.1-0");
        x.pre(0, true);
        release(x, "fix: a", "2.0.2-1");
        x.pre(0, false);
        release(x, "feat: a", "2.1.0-0");
        x.pre(0, true);
        release(x, "feat: a", "2.2.0-1");
        x.pre(0, false);
        x.pre(0, true);
        release(x, "fix: a", "2.2.0-2");
    }

    private static void rowsKeepTheVersionAheadOfThem() {
        BumpNotes x = new BumpNotes();
        x.pack(3, 0, 7);
        x.pre(0, true);
        release(x, "feat: a", "3.1.0-1");
        x.pre(0, false);
        release(x, "feat!: a", "4.0.0-0");
        x.pre(0, true);
        release(x, "fix: a", "4.0.1-1");
        release(x, "feat: a", "4.1.0-1");
        x.pre(0, false);
        release(x, "fix: a", "4.1.0-0");
    }

    private static void rowsOfMajorZero() {
        BumpNotes x = new BumpNotes();
        x.pack(0, 1, 0);
        x.pack(1, 0, 0);
        x.needs(1, 0, 0);
        x.pre(0, true);
        Checks.change(x, 0, "feat: a");
        checks.due("run by feat", x.run(), 2);
        checks.due("tag", x.tag(0), 1);
        Checks.change(x, 0, "feat!: a");
        checks.due("the same version once more is in the exact range", x.run(), 1);
        checks.due("greater than all of the row, though raised the same", Checks.version(x, 0), "0.2.0-1");
        checks.due("tagged already", x.tag(0), 0);
        Checks.change(x, 0, "feat!: a");
        checks.due("run by a second break", x.run(), 2);
        checks.due("not greater any more", Checks.version(x, 0), "0.2.0-2");
        x.pre(0, false);
        Checks.change(x, 0, "fix: a");
        x.run();
        checks.due("the end of the row", Checks.version(x, 0), "0.2.0-0");
    }

    private static void preModeWithoutABump() {
        BumpNotes x = Checks.withPacks(1);
        x.pre(0, true);
        checks.due("no bump, no pre", x.run(), 0);
        checks.due("as before", Checks.version(x, 0), "1.0.0-0");
        release(x, "fix: a", "1.0.1-1");
        checks.due("no bump in the row", x.run(), 0);
        checks.due("as before in the row", Checks.version(x, 0), "1.0.1-1");
        x.pre(0, false);
        checks.due("no bump, the row does not end", x.run(), 0);
        checks.due("as before, pre mode off", Checks.version(x, 0), "1.0.1-1");
        release(x, "fix: a", "1.0.1-0");
    }

    private static void rowsByCarriedBumps() {
        BumpNotes x = Checks.withPacks(3);
        x.needs(1, 0, 0);
        x.needs(2, 1, 0);
        x.pre(1, true);
        Checks.change(x, 0, "fix: a");
        checks.due("carried into a row and on", x.run(), 3);
        checks.due("the row begins", Checks.version(x, 1), "1.0.1-1");
        Checks.change(x, 0, "fix: a");
        checks.due("carried by a pre", x.run(), 3);
        checks.due("the row goes on", Checks.version(x, 1), "1.0.1-2");
        checks.due("the next one", Checks.version(x, 2), "1.0.2-0");
        x.pre(1, false);
        Checks.change(x, 0, "fix: a");
        checks.due("carried to the end of the row", x.run(), 3);
        checks.due("the row ends", Checks.version(x, 1), "1.0.1-0");
        checks.due("the next one once more", Checks.version(x, 2), "1.0.3-0");
    }

    private static void notesByGroups() {
        BumpNotes x = Checks.withPacks(3);
        String[] texts = {"loose", "chore: a", "test: a", "docs: a", "perf: a", "fix: a", "feat: a", "docs!: a",
            "chore: b", "loose b", "feat: b", "test: b BREAKING"};
        for (String text : texts) {
            Checks.change(x, 1, text);
        }
        Checks.change(x, 0, "fix: c");
        Checks.change(x, 2, "docs: d");
        checks.due("run", x.run(), 2);
        checks.due("by packages and groups", Checks.notes(x), "12 7 11 6 10 5 4 3 2 1 8 0 9");
        checks.due("note - 1", x.note(-1), -1);
        checks.due("note 13", x.note(13), -1);
        checks.due("note far", x.note(Integer.MAX_VALUE), -1);
        checks.due("note far below", x.note(Integer.MIN_VALUE), -1);

        BumpNotes y = Checks.withPacks(2);
        y.needs(0, 1, 0);
        Checks.change(y, 0, "docs: a");
        Checks.change(y, 1, "loose");
        Checks.change(y, 1, "fix: b");
        Checks.change(y, 1, "fix!: c");
        Checks.change(y, 1, "feat: d");
        y.squash(3, 1);
        checks.due("run with a carried bump", y.run(), 2);
        checks.due("carried: all that were waiting; squashed: by its new weight", Checks.notes(y), "0 1 4 2");
    }

    private static void notesOfTheLatestRun() {
        BumpNotes x = Checks.withPacks(1);
        Checks.change(x, 0, "fix: a");
        checks.due("no run yet", x.note(0), -1);
        x.run();
        Checks.change(x, 0, "feat: b");
        checks.due("until the next run", Checks.notes(x), "0");
        x.run();
        checks.due("by the next run", Checks.notes(x), "1");
        x.run();
        checks.due("none by a run without a bump", Checks.notes(x), "");
        Checks.revert(x, 0, "feat: c");
        x.run();
        checks.due("a reverting one by its kind", Checks.notes(x), "2");
    }

    private static void toldBreaks() {
        BumpNotes quiet = Checks.withPacks(2);
        Checks.change(quiet, 1, "fix: a");
        quiet.run();
        checks.due("a face of which nothing was said", Checks.told(quiet), "");

        BumpNotes x = Checks.withPacks(5);
        x.needs(4, 3, 0);
        for (int pack = 0; pack < 5; pack++) {
            x.face(pack);
        }
        checks.due("no run yet", x.told(0), -1);
        Checks.change(x, 3, "feat: a");
        Checks.change(x, 2, "feat!: a");
        Checks.change(x, 1, "fix: a");
        checks.due("run", x.run(), 4);
        checks.due("told", Checks.told(x), "0 1 3 4");
        checks.due("told - 1", x.told(-1), -1);
        checks.due("told 4", x.told(4), -1);
        checks.due("told far", x.told(Integer.MAX_VALUE), -1);
        x.face(1);
        checks.due("until the next run", Checks.told(x), "0 1 3 4");
        x.run();
        checks.due("those without a bump and those said again", Checks.told(x), "0 1");
        Checks.change(x, 0, "fix!: a");
        x.run();
        checks.due("with a mark", Checks.told(x), "1");
        Checks.change(x, 1, "fix: a");
        x.run();
        checks.due("told with a bump", Checks.told(x), "1");
        x.run();
        checks.due("so no longer", Checks.told(x), "");

        BumpNotes young = new BumpNotes();
        young.pack(0, 1, 0);
        young.face(0);
        Checks.change(young, 0, "feat!: a");
        young.run();
        checks.due("bump 3 of major 0 has the mark", Checks.told(young), "");
    }

    private static void tags() {
        BumpNotes x = Checks.withPacks(2);
        checks.due("tag 0", x.tag(0), 1);
        checks.due("tag 0 again", x.tag(0), 0);
        checks.due("tag the same version of another one", x.tag(1), 1);
        int[] none = {-1, 2, 10, Integer.MIN_VALUE, Integer.MAX_VALUE};
        for (int pack : none) {
            checks.due("tag " + pack, x.tag(pack), -1);
        }
        x.pre(0, true);
        release(x, "fix: a", "1.0.1-1");
        checks.due("tag a pre", x.tag(0), 1);
        release(x, "fix: a", "1.0.1-2");
        checks.due("tag the next pre", x.tag(0), 1);
        checks.due("tag it again", x.tag(0), 0);
        x.pre(0, false);
        release(x, "fix: a", "1.0.1-0");
        checks.due("tag the end of the row", x.tag(0), 1);
        checks.due("tag the other one again", x.tag(1), 0);
    }

    /** Nine packages need the first one exactly, so that each round brings ten versions to tag. */
    private static void mostTags() {
        BumpNotes x = Checks.withPacks(10);
        for (int pack = 1; pack < 10; pack++) {
            x.needs(pack, 0, 0);
        }
        for (int round = 0; round < 10; round++) {
            for (int pack = 0; pack < 10; pack++) {
                checks.due("tag of round " + round, x.tag(pack), 1);
            }
            if (round < 9) {
                Checks.change(x, 0, "fix: a");
                x.run();
            }
        }
        checks.due("one that is there, at 100", x.tag(9), 0);
        Checks.change(x, 9, "fix: a");
        x.run();
        checks.due("tag 101", x.tag(9), -1);
        checks.due("tag 101 again", x.tag(9), -1);
        checks.due("one that is there, still", x.tag(8), 0);
        checks.due("no package, at 100", x.tag(10), -1);
    }
}
