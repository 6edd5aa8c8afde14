/** Promises 6 to 9 and 14: text, change, revert, squash, about. */
public final class ChangesTest {
    private static final Checks checks = new Checks();

    public static void main(String[] args) {
        textsOnTheTape();
        tapeIsEmptiedInAnyCase();
        grammar();
        looseTexts();
        breakingSubjects();
        changesOfNoPackage();
        mostChanges();
        revertsOfPending();
        revertsOfReleased();
        wrongReverts();
        squashes();
        wrongSquashes();
        wrongAbouts();
        checks.end();
    }

    private static void textsOnTheTape() {
        BumpNotes x = Checks.withPacks(1);
        checks.due("zeros are left out", x.text(0x0066006561000074L), true);
        checks.due("nothing comes", x.text(0), true);
        checks.due("character 31", x.text(0x610000000000001FL), false);
        checks.due("character 127", x.text(0x7F00000000000061L), false);
        checks.due("character 128", x.text(0x6161616180616161L), false);
        checks.due("character 255", x.text(-1L), false);
        checks.due("characters 32, 126", x.text(0x3A207E2000000000L), true);
        x.change(0);
        checks.due("feat: ~ and a blank", Checks.about(x, 0), "0 2 0 0 0");

        checks.due("59 characters", Checks.write(x, "feat: " + "x".repeat(53)), true);
        checks.due("61 would be too many", x.text(Checks.word("ab")), false);
        checks.due("60", x.text(Checks.word("!")), true);
        checks.due("61", x.text(Checks.word("a")), false);
        checks.due("none onto a full tape", x.text(0), true);
        x.change(0);
        checks.due("60 characters", Checks.about(x, 1), "0 2 0 0 0");

        Checks.write(x, "fix: " + "x".repeat(44) + " BREAKIN");
        checks.due("a refused text leaves no part of itself", x.text(Checks.word("1234")), false);
        checks.due("what fits comes", x.text(Checks.word("G")), true);
        x.change(0);
        checks.due("a break at the 58th character", Checks.about(x, 2), "1 3 0 0 0");
    }

    private static void tapeIsEmptiedInAnyCase() {
        BumpNotes x = Checks.withPacks(1);
        Checks.change(x, 1, "feat: a");
        x.change(0);
        checks.due("empty after a wrong change", Checks.about(x, 0), "-1 1 0 0 0");
        Checks.revert(x, 7, "feat: a");
        x.change(0);
        checks.due("empty after a wrong revert", Checks.about(x, 1), "-1 1 0 0 0");
        Checks.change(x, 0, "feat: a");
        x.change(0);
        checks.due("empty after a change", Checks.about(x, 3), "-1 1 0 0 0");
        Checks.revert(x, 3, "feat: a");
        x.change(0);
        checks.due("empty after a revert", Checks.about(x, 5), "-1 1 0 0 0");
        Checks.revert(x, 3, "feat: a");
        x.change(0);
        checks.due("empty after a revert of one that is out", Checks.about(x, 6), "-1 1 0 0 0");
    }

    private static void expect(String text, String want) {
        BumpNotes x = Checks.withPacks(1);
        x.setting(0);
        checks.due("change by " + text, Checks.change(x, 0, text), 0);
        checks.due("about " + text, Checks.about(x, 0), want);
    }

    private static void grammar() {
        String[] kinds = {"feat", "fix", "perf", "docs", "test", "chore"};
        int[] weights = {2, 1, 1, 0, 0, 0};
        for (int i = 0; i < kinds.length; i++) {
            expect(kinds[i] + ": a", i + " " + weights[i] + " 0 0 0");
            expect(kinds[i] + "(az): a", i + " " + weights[i] + " 0 0 2");
            expect(kinds[i] + "!: a", i + " 3 0 0 0");
            expect(kinds[i] + "(core)!: a", i + " 3 0 0 4");
        }
        expect("fix(a):  ", "1 1 0 0 1");
        expect("fix: !", "1 1 0 0 0");
        expect("fix: : (a)!", "1 1 0 0 0");
        expect("fix(" + "z".repeat(52) + "): a", "1 1 0 0 52");
    }

    private static void looseTexts() {
        String[] texts = {"", "f", "feat", "feat:", "feat: ", "feat:a", "feat :a", "feat : a", " feat: a", "Feat: a",
            "feats: a", "fea: a", "feat(): a", "feat(A): a", "feat(a b): a", "feat(a1): a", "feat(a: a", "feat(a", "feat(",
            "feat(a) : a", "feat(a)", "feat(a)!", "feat(a)a: b", "feat!(a): a", "feat!!: a", "feat!", "feat! : a", "feat!: ",
            "feat(a)!:a", "feat(`): a", "feat({): a", "build: a", "x", "!: a", "(a): a", ": a", "BREAKING", "x: BREAKING",
            "feat:BREAKING", "feat(a)(b): a", "feat((a)): a", "feat\\: a"};
        for (String text : texts) {
            expect(text, "-1 0 0 0 0");
        }
        // The grammar breaks off at the 60th character.
        expect("fix(" + "z".repeat(56), "-1 0 0 0 0");
        expect("fix(" + "z".repeat(55) + ")", "-1 0 0 0 0");
        expect("fix(" + "z".repeat(54) + ")!", "-1 0 0 0 0");
        expect("fix(" + "z".repeat(54) + "):", "-1 0 0 0 0");
        expect("fix(" + "z".repeat(53) + "): ", "-1 0 0 0 0");
        afterLongerTexts();
    }

    /** What a longer text left behind on the tape must not complete a shorter one. */
    private static void afterLongerTexts() {
        String[] texts = {"fix(abc)!: BREAKING", "fix: abc", "feat: a"};
        for (String text : texts) {
            for (int length = 0; length < text.indexOf(": ") + 2; length++) {
                BumpNotes x = Checks.withPacks(1);
                Checks.change(x, 0, text);
                Checks.change(x, 0, text.substring(0, length));
                checks.due("cut short: " + text.substring(0, length), Checks.about(x, 1), "-1 1 0 0 0");
            }
        }
    }

    private static void breakingSubjects() {
        expect("docs: BREAKING", "3 3 0 0 0");
        expect("docs(a): a BREAKING", "3 3 0 0 1");
        expect("docs:  BREAKING", "3 3 0 0 0");
        expect("docs: aBREAKING", "3 0 0 0 0");
        expect("docs: -BREAKING", "3 0 0 0 0");
        expect("docs: BREAKING ", "3 0 0 0 0");
        expect("docs: BREAKING a", "3 0 0 0 0");
        expect("docs: breaking", "3 0 0 0 0");
        expect("docs: REAKING", "3 0 0 0 0");
        expect("docs: BREAKIN", "3 0 0 0 0");
        expect("docs: BREAKINGBREAKING", "3 0 0 0 0");
        expect("fix: BREAKINGS", "1 1 0 0 0");
        expect("feat: a BREAKING:", "0 2 0 0 0");
    }

    private static void changesOfNoPackage() {
        BumpNotes x = Checks.withPacks(2);
        int[] none = {-1, 2, 10, Integer.MIN_VALUE, Integer.MAX_VALUE};
        for (int pack : none) {
            checks.due("change of " + pack, Checks.change(x, pack, "feat: a"), -1);
        }
        checks.due("the first change", Checks.change(x, 1, "feat: a"), 0);
        checks.due("the second change", Checks.change(x, 0, "feat: a"), 1);
    }

    private static void mostChanges() {
        BumpNotes x = Checks.withPacks(1);
        for (int i = 0; i < 60; i++) {
            checks.due("change " + i, Checks.change(x, 0, "fix: a"), i);
        }
        checks.due("change 60", Checks.change(x, 0, "fix: a"), -1);
        checks.due("revert at 60", Checks.revert(x, 0, "fix: a"), -1);
        checks.due("squash at 60", x.squash(0, 1), true);
        checks.due("revert of one that is out at 60", Checks.revert(x, 0, "fix: a"), -1);
        checks.due("none came", x.about(60, 0), -1);
        checks.due("the last one", Checks.about(x, 59), "1 1 0 0 0");
        checks.due("run", x.run(), 1);
        checks.due("the last one in the notes", x.note(58), 59);
        checks.due("behind it", x.note(59), -1);
    }

    private static void revertsOfPending() {
        BumpNotes x = Checks.withPacks(2);
        Checks.change(x, 1, "feat: a");
        checks.due("revert", Checks.revert(x, 0, "fix(abc)!: b"), 1);
        checks.due("the reverted one", Checks.about(x, 0), "0 2 1 0 0");
        checks.due("the reverting one", Checks.about(x, 1), "1 3 1 0 3");
        checks.due("neither counts", x.run(), 0);
        checks.due("revert of one that is out", Checks.revert(x, 0, "fix: b"), -2);
        checks.due("revert of the reverting one", Checks.revert(x, 1, "fix: b"), -2);
        Checks.change(x, 0, "fix: other");
        checks.due("only the other package", x.run(), 1);
        checks.due("nothing of this one is released", x.about(0, 3), 0);
        Checks.change(x, 1, "fix: later");
        x.run();
        checks.due("those that are out are released too", Checks.about(x, 0), "0 2 1 3 0");
        checks.due("and the reverting one", Checks.about(x, 1), "1 3 1 3 3");
        checks.due("but not in the notes", Checks.notes(x), "3");
        checks.due("out, though released", Checks.revert(x, 0, "fix: b"), -2);
    }

    private static void revertsOfReleased() {
        BumpNotes x = Checks.withPacks(2);
        Checks.change(x, 1, "feat: a");
        x.run();
        checks.due("revert", Checks.revert(x, 0, "feat(ab)!: b"), 1);
        checks.due("the reverted one stays", Checks.about(x, 0), "0 2 0 1 0");
        checks.due("the reverting one weighs 1", Checks.about(x, 1), "0 1 0 0 2");
        x.setting(0);
        checks.due("revert again", Checks.revert(x, 0, "loose"), 2);
        checks.due("loose, it weighs 1", Checks.about(x, 2), "-1 1 0 0 0");
        checks.due("run", x.run(), 1);
        checks.due("bump of its package", x.bump(1), 1);
        checks.due("version", Checks.version(x, 1), "1.1.1-0");
        checks.due("revert the released reverting one", Checks.revert(x, 1, "docs: c"), 3);
        checks.due("it weighs 1", Checks.about(x, 3), "3 1 0 0 0");
        checks.due("revert the pending reverting one", Checks.revert(x, 3, "docs: d"), 4);
        checks.due("out", Checks.about(x, 3), "3 1 1 0 0");
        checks.due("out, by its text", Checks.about(x, 4), "3 0 1 0 0");
        checks.due("nothing left", x.run(), 0);
    }

    private static void wrongReverts() {
        BumpNotes x = Checks.withPacks(1);
        Checks.change(x, 0, "feat: a");
        int[] none = {-1, 1, 60, Integer.MIN_VALUE, Integer.MAX_VALUE};
        for (int change : none) {
            checks.due("revert of " + change, Checks.revert(x, change, "feat: a"), -1);
        }
        checks.due("no change came", x.about(1, 0), -1);
        checks.due("an empty text reverts", x.revert(0), 1);
        checks.due("it is loose", Checks.about(x, 1), "-1 1 1 0 0");
    }

    private static void squashes() {
        BumpNotes x = Checks.withPacks(1);
        Checks.change(x, 0, "feat: a");
        Checks.change(x, 0, "chore(a): b");
        Checks.change(x, 0, "fix: c");
        checks.due("squash", x.squash(0, 1), true);
        checks.due("the squashed one", Checks.about(x, 0), "0 2 1 0 0");
        checks.due("the other one", Checks.about(x, 1), "5 2 0 0 1");
        checks.due("squash of a lesser one", x.squash(2, 1), true);
        checks.due("the other one keeps its weight", Checks.about(x, 1), "5 2 0 0 1");
        checks.due("run", x.run(), 1);
        checks.due("bump", x.bump(0), 2);
        checks.due("notes", Checks.notes(x), "1");
        checks.due("a squashed one is released", x.about(0, 3), 1);

        Checks.change(x, 0, "docs: a");
        Checks.change(x, 0, "fix: b");
        x.squash(4, 3);
        checks.due("revert takes it out whole", Checks.revert(x, 3, "fix: c"), 5);
        checks.due("nothing comes back", x.run(), 0);
    }

    private static void wrongSquashes() {
        BumpNotes x = Checks.withPacks(2);
        Checks.change(x, 0, "feat: a");
        Checks.change(x, 1, "fix: b");
        Checks.change(x, 1, "docs: c");
        checks.due("itself", x.squash(1, 1), false);
        checks.due("of different packages", x.squash(0, 1), false);
        checks.due("none such", x.squash(3, 1), false);
        checks.due("into none such", x.squash(1, 3), false);
        checks.due("- 1", x.squash(-1, 1), false);
        checks.due("into - 1", x.squash(1, -1), false);
        checks.due("far", x.squash(Integer.MAX_VALUE, Integer.MIN_VALUE), false);
        checks.due("none is out", x.about(0, 2) + x.about(1, 2) + x.about(2, 2), 0);
        checks.due("good", x.squash(1, 2), true);
        Checks.change(x, 1, "fix: d");
        checks.due("one that is out", x.squash(1, 3), false);
        checks.due("into one that is out", x.squash(3, 1), false);
        x.run();
        Checks.change(x, 1, "fix!: e");
        checks.due("one that is released", x.squash(3, 4), false);
        checks.due("into one that is released", x.squash(4, 3), false);
        checks.due("a refused squash leaves the weight", Checks.about(x, 3), "1 1 0 1 0");
        checks.due("a refused squash takes nothing out", Checks.about(x, 4), "1 3 0 0 0");
    }

    private static void wrongAbouts() {
        BumpNotes x = Checks.withPacks(1);
        Checks.change(x, 0, "feat(abc): a");
        checks.due("good", Checks.about(x, 0), "0 2 0 0 3");
        checks.due("what - 1", x.about(0, -1), -1);
        checks.due("what 5", x.about(0, 5), -1);
        int[] none = {-1, 1, 60, Integer.MIN_VALUE, Integer.MAX_VALUE};
        for (int change : none) {
            checks.due("about " + change, Checks.about(x, change), "-1 -1 -1 -1 -1");
        }
        x.run();
        x.run();
        Checks.change(x, 0, "feat: b");
        x.run();
        checks.due("released by run 1", x.about(0, 3), 1);
        checks.due("released by run 3, one without a bump counted", x.about(1, 3), 3);
    }
}
