/** Promises 8, 9 and 14, and the terms of changes: a test of its own for each sentence that names an edge. */
public final class EdgesOfChangesTest {
    private static final Checks checks = new Checks();

    public static void main(String[] args) {
        revertingOneThatIsNotReleased();
        revertingOneThatIsReleased();
        revertOfTheSamePackage();
        tapeIsEmptyAfterARevert();
        tapeIsEmptyAfterNoSuchChange();
        tapeIsEmptyAfterOneThatIsOut();
        tapeIsEmptyAtSixtyChanges();
        revertOfNoneSuch();
        revertAtSixty();
        revertOfOneThatIsOut();
        revertOfOneThatIsOutAtSixty();
        revertOfOneThatIsOutAndReleased();
        squashTakesOut();
        squashLeavesTheGreaterWeight();
        squashOfNoneSuch();
        squashOfItself();
        squashOfDifferentPackages();
        squashOfOneThatIsOut();
        squashOfOneThatIsReleased();
        refusedSquashChangesNothing();
        aboutNoneSuch();
        aboutAnotherWhat();
        aboutKindAndScope();
        aboutTheRun();
        checks.end();
    }

    private static BumpNotes withChanges(String... texts) {
        BumpNotes x = Checks.withPacks(1);
        for (String text : texts) {
            Checks.change(x, 0, text);
        }
        return x;
    }

    private static BumpNotes withSixtyChanges() {
        BumpNotes x = Checks.withPacks(1);
        for (int i = 0; i < 60; i++) {
            Checks.change(x, 0, "fix: a");
        }
        return x;
    }

    private static void revertingOneThatIsNotReleased() {
        checks.by("Terms: REVERTING one that isn't RELEASED: both are OUT");
        BumpNotes x = withChanges("feat: a");
        checks.due("revert", Checks.revert(x, 0, "fix(ab)!: b"), 1);
        checks.due("the reverted one", Checks.about(x, 0), "0 2 1 0 0");
        checks.due("the reverting one", Checks.about(x, 1), "1 3 1 0 2");
        checks.due("run", x.run(), 0);
        checks.due("version", Checks.version(x, 0), "1.0.0-0");
        // A run without a bump releases nothing, so that what waits can still be taken out.
        Checks.change(x, 0, "docs: c");
        x.run();
        checks.due("revert behind a run", Checks.revert(x, 2, "feat: d"), 3);
        checks.due("the one that waited", Checks.about(x, 2), "3 0 1 0 0");
        checks.due("its reverting one", Checks.about(x, 3), "0 2 1 0 0");
    }

    private static void revertingOneThatIsReleased() {
        checks.by("Terms: One that is: the reverting one has WEIGHT 1, whatever its text; nothing is OUT");
        BumpNotes x = withChanges("feat: a");
        x.run();
        x.setting(0);
        String[] texts = {"feat(ab)!: b", "feat: b", "fix: b", "docs: b", "chore: BREAKING", "loose", ""};
        String[] want = {"0 1 0 0 2", "0 1 0 0 0", "1 1 0 0 0", "3 1 0 0 0", "5 1 0 0 0", "-1 1 0 0 0", "-1 1 0 0 0"};
        for (int i = 0; i < texts.length; i++) {
            checks.due("revert by " + texts[i], Checks.revert(x, 0, texts[i]), i + 1);
            checks.due("about " + texts[i], Checks.about(x, i + 1), want[i]);
        }
        checks.due("the reverted one", Checks.about(x, 0), "0 2 0 1 0");
        checks.due("run", x.run(), 1);
        checks.due("version", Checks.version(x, 0), "1.1.1-0");
    }

    private static void revertOfTheSamePackage() {
        checks.by("Promise 8: a CHANGE of the same PACKAGE as another one");
        BumpNotes x = Checks.withPacks(10);
        Checks.change(x, 9, "feat: a");
        x.run();
        Checks.revert(x, 0, "fix: b");
        checks.due("run", x.run(), 1);
        checks.due("bump", x.bump(9), 1);
        checks.due("notes", Checks.notes(x), "1");
    }

    private static void tapeIsEmptyAfterARevert() {
        checks.by("Promise 8: The TAPE is empty then");
        BumpNotes x = withChanges("feat: a");
        Checks.revert(x, 0, "feat(abc)!: a");
        x.change(0);
        checks.due("the next change has no text", Checks.about(x, 2), "-1 1 0 0 0");
    }

    private static void tapeIsEmptyAfterNoSuchChange() {
        checks.by("Promise 8: empty in any case: no such CHANGE");
        for (int none : Checks.numbersOfNone(1, 60)) {
            BumpNotes x = withChanges("feat: a");
            Checks.revert(x, none, "feat(abc)!: a");
            x.change(0);
            checks.due("after a revert of " + none, Checks.about(x, 1), "-1 1 0 0 0");
        }
    }

    private static void tapeIsEmptyAfterOneThatIsOut() {
        checks.by("Promise 8: empty in any case: that one is OUT");
        BumpNotes x = withChanges("feat: a");
        Checks.revert(x, 0, "fix: b");
        Checks.revert(x, 0, "feat(abc)!: a");
        x.change(0);
        checks.due("the next change has no text", Checks.about(x, 2), "-1 1 0 0 0");
    }

    private static void tapeIsEmptyAtSixtyChanges() {
        checks.by("Promise 8: empty in any case: there are 60");
        BumpNotes x = withSixtyChanges();
        checks.due("60 characters", Checks.write(x, "x".repeat(60)), true);
        checks.due("revert", x.revert(0), -1);
        checks.due("60 characters again", Checks.write(x, "x".repeat(60)), true);
    }

    private static void revertOfNoneSuch() {
        checks.by("Promise 8: - 1 if there is no such CHANGE");
        BumpNotes x = withChanges("feat: a", "fix: b");
        for (int none : Checks.numbersOfNone(2, 60)) {
            checks.due("revert of " + none, Checks.revert(x, none, "feat: a"), -1);
        }
        checks.due("none came", x.about(2, 0), -1);
        checks.due("none is out", x.about(0, 2) + x.about(1, 2), 0);
    }

    private static void revertAtSixty() {
        checks.by("Promise 8: - 1 if there are 60");
        BumpNotes x = withSixtyChanges();
        checks.due("revert of the first", Checks.revert(x, 0, "fix: a"), -1);
        checks.due("revert of the last", Checks.revert(x, 59, "fix: a"), -1);
        checks.due("the first is not out", x.about(0, 2), 0);
        checks.due("the last is not out", x.about(59, 2), 0);
        x.run();
        checks.due("revert of a released one", Checks.revert(x, 0, "fix: a"), -1);
        checks.due("none came", x.about(60, 0), -1);
        BumpNotes y = Checks.withPacks(1);
        for (int i = 0; i < 59; i++) {
            Checks.change(y, 0, "fix: a");
        }
        checks.due("the 60th may be a reverting one", Checks.revert(y, 58, "fix: a"), 59);
    }

    private static void revertOfOneThatIsOut() {
        checks.by("Promise 8: - 2 if that one is OUT");
        BumpNotes x = withChanges("feat: a", "fix: b", "fix: c");
        Checks.revert(x, 0, "fix: d");
        x.squash(1, 2);
        checks.due("of the reverted one", Checks.revert(x, 0, "fix: e"), -2);
        checks.due("of the reverting one", Checks.revert(x, 3, "fix: e"), -2);
        checks.due("of the squashed one", Checks.revert(x, 1, "fix: e"), -2);
        checks.due("none came", x.about(4, 0), -1);
        checks.due("of the one it was squashed into", Checks.revert(x, 2, "fix: e"), 4);
    }

    private static void revertOfOneThatIsOutAtSixty() {
        checks.by("Promise 8: - 1 if there are 60; else - 2");
        BumpNotes x = withSixtyChanges();
        x.squash(0, 1);
        checks.due("out, at 60", Checks.revert(x, 0, "fix: a"), -1);
        BumpNotes y = Checks.withPacks(1);
        for (int i = 0; i < 59; i++) {
            Checks.change(y, 0, "fix: a");
        }
        y.squash(0, 1);
        checks.due("out, at 59", Checks.revert(y, 0, "fix: a"), -2);
    }

    private static void revertOfOneThatIsOutAndReleased() {
        checks.by("Promise 8: - 2 if that one is OUT, RELEASED or not");
        BumpNotes x = withChanges("feat: a", "fix: b");
        x.squash(0, 1);
        x.run();
        checks.due("released", x.about(0, 3), 1);
        checks.due("revert", Checks.revert(x, 0, "fix: c"), -2);
        checks.due("none came", x.about(2, 0), -1);
    }

    private static void squashTakesOut() {
        checks.by("Terms: SQUASHING: it is OUT");
        BumpNotes x = withChanges("feat: a", "chore(ab): b");
        checks.due("squash", x.squash(0, 1), true);
        checks.due("the squashed one", Checks.about(x, 0), "0 2 1 0 0");
        checks.due("the other one", Checks.about(x, 1), "5 2 0 0 2");
        x.run();
        checks.due("notes", Checks.notes(x), "1");
        BumpNotes y = withChanges("feat: a", "chore: b");
        checks.due("squash into an earlier one", y.squash(1, 0), true);
        checks.due("the later one", Checks.about(y, 1), "5 0 1 0 0");
        checks.due("the earlier one", Checks.about(y, 0), "0 2 0 0 0");
    }

    private static void squashLeavesTheGreaterWeight() {
        checks.by("Terms: the other one has the greater WEIGHT of both from then on");
        String[] texts = {"docs: a", "fix: a", "feat: a", "feat!: a"};
        for (int one = 0; one < 4; one++) {
            for (int other = 0; other < 4; other++) {
                BumpNotes x = withChanges(texts[one], texts[other]);
                x.squash(0, 1);
                String name = texts[one] + " into " + texts[other];
                checks.due("weight by " + name, x.about(1, 1), Math.max(one, other));
                checks.due("the squashed one by " + name, x.about(0, 1), one);
                x.run();
                checks.due("bump by " + name, x.bump(0), Math.max(one, other));
            }
        }
        BumpNotes x = withChanges("feat!: a", "docs: b", "loose");
        x.squash(0, 1);
        x.squash(1, 2);
        checks.due("carried through two", Checks.about(x, 2), "-1 3 0 0 0");
        Checks.revert(x, 2, "fix: c");
        checks.due("nothing comes back", x.run(), 0);
    }

    private static void squashOfNoneSuch() {
        checks.by("Promise 9: false if there are none such");
        BumpNotes x = withChanges("feat: a", "fix: b");
        for (int none : Checks.numbersOfNone(2, 60)) {
            checks.due("squash(" + none + ", 0)", x.squash(none, 0), false);
            checks.due("squash(0, " + none + ")", x.squash(0, none), false);
            checks.due("squash of none, both " + none, x.squash(none, none), false);
        }
        checks.due("the first one", Checks.about(x, 0), "0 2 0 0 0");
    }

    private static void squashOfItself() {
        checks.by("Promise 9: false if they are one");
        BumpNotes x = withSixtyChanges();
        for (int i = 0; i < 60; i++) {
            checks.due("squash(" + i + ", " + i + ")", x.squash(i, i), false);
            checks.due("not out", x.about(i, 2), 0);
        }
    }

    private static void squashOfDifferentPackages() {
        checks.by("Promise 9: false if they are of different PACKAGES");
        BumpNotes x = Checks.withPacks(10);
        Checks.change(x, 0, "feat: a");
        Checks.change(x, 9, "fix: b");
        checks.due("squash(0, 1)", x.squash(0, 1), false);
        checks.due("squash(1, 0)", x.squash(1, 0), false);
        checks.due("the first one", Checks.about(x, 0), "0 2 0 0 0");
        checks.due("the second one", Checks.about(x, 1), "1 1 0 0 0");
    }

    private static void squashOfOneThatIsOut() {
        checks.by("Promise 9: false if one is OUT");
        BumpNotes x = withChanges("feat!: a", "fix: b", "docs: c");
        Checks.revert(x, 0, "feat: d");
        checks.due("the reverted one", x.squash(0, 2), false);
        checks.due("into the reverted one", x.squash(2, 0), false);
        checks.due("the reverting one", x.squash(3, 2), false);
        checks.due("into the reverting one", x.squash(2, 3), false);
        checks.due("good", x.squash(1, 2), true);
        checks.due("the squashed one again", x.squash(1, 2), false);
        checks.due("into the squashed one", x.squash(2, 1), false);
        checks.due("the one that is left", Checks.about(x, 2), "3 1 0 0 0");
    }

    private static void squashOfOneThatIsReleased() {
        checks.by("Promise 9: false if one is RELEASED");
        BumpNotes x = withChanges("fix: a", "docs: b");
        x.run();
        Checks.change(x, 0, "feat: c");
        checks.due("a released one", x.squash(0, 2), false);
        checks.due("into a released one", x.squash(2, 0), false);
        checks.due("both", x.squash(0, 1), false);
        checks.due("one that was released without a weight", x.squash(2, 1), false);
        // A run without a bump releases nothing.
        BumpNotes y = withChanges("docs: a", "docs: b");
        y.run();
        checks.due("behind a run that released none", y.squash(0, 1), true);
    }

    private static void refusedSquashChangesNothing() {
        checks.by("Promise 9: false, and both are as before");
        BumpNotes x = withChanges("fix: a");
        x.run();
        Checks.change(x, 0, "feat!: b");
        x.squash(1, 0);
        checks.due("the released one", Checks.about(x, 0), "1 1 0 1 0");
        checks.due("the other one", Checks.about(x, 1), "0 3 0 0 0");
        x.squash(0, 1);
        checks.due("the released one, again", Checks.about(x, 0), "1 1 0 1 0");
        checks.due("the other one, again", Checks.about(x, 1), "0 3 0 0 0");
    }

    private static void aboutNoneSuch() {
        checks.by("Promise 14: NONE if there is none such");
        BumpNotes x = withChanges("feat(ab): a", "fix(ab): a");
        for (int none : Checks.numbersOfNone(2, 60)) {
            checks.due("about " + none, Checks.about(x, none), "-1 -1 -1 -1 -1");
        }
    }

    private static void aboutAnotherWhat() {
        checks.by("Promise 14: NONE for another what");
        BumpNotes x = withChanges("feat(ab): a");
        int[] wrong = {-1, 5, 6, Integer.MIN_VALUE, Integer.MAX_VALUE};
        for (int what : wrong) {
            checks.due("what " + what, x.about(0, what), -1);
        }
        checks.due("those that there are", Checks.about(x, 0), "0 2 0 0 2");
    }

    private static void aboutKindAndScope() {
        checks.by("Promise 14: 0 its KIND (NONE: LOOSE), 4 how long its SCOPE is");
        BumpNotes x = withChanges("feat: a", "chore(abc): a", "chore(abc):", "test(a)!: a");
        checks.due("the least kind, no scope", x.about(0, 0) + " " + x.about(0, 4), "0 0");
        checks.due("the greatest kind, a scope", x.about(1, 0) + " " + x.about(1, 4), "5 3");
        checks.due("loose, no scope", x.about(2, 0) + " " + x.about(2, 4), "-1 0");
        checks.due("the shortest scope", x.about(3, 0) + " " + x.about(3, 4), "4 1");
    }

    private static void aboutTheRun() {
        checks.by("Promise 14: 3 the RUN that RELEASED it (from 1; 0: none yet)");
        BumpNotes x = withChanges("fix: a");
        checks.due("none yet", x.about(0, 3), 0);
        x.run();
        checks.due("the first run", x.about(0, 3), 1);
        Checks.change(x, 0, "fix: b");
        checks.due("none yet, of the next one", x.about(1, 3), 0);
        x.run();
        checks.due("still the first run", x.about(0, 3), 1);
        checks.due("the second run", x.about(1, 3), 2);
    }
}
