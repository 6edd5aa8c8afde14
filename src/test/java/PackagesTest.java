/** Promises 1 to 5 and 10, 13: a new object, pack, needs, setting, pre, face, version. */
public final class PackagesTest {
    private static final Checks checks = new Checks();

    public static void main(String[] args) {
        newObject();
        packs();
        needs();
        needsByRanges();
        needsAreCarriedOn();
        settings();
        preAndFaceOfNoPackage();
        versionParts();
        checks.end();
    }

    private static void newObject() {
        BumpNotes x = new BumpNotes();
        checks.due("NONE", BumpNotes.NONE, -1);
        checks.due("new: version", x.version(0, 0), -1);
        checks.due("new: bump", x.bump(0), -1);
        checks.due("new: about", x.about(0, 0), -1);
        checks.due("new: note", x.note(0), -1);
        checks.due("new: told", x.told(0), -1);
        checks.due("new: tag", x.tag(0), -1);
        checks.due("new: change", Checks.change(x, 0, "feat: a"), -1);
        checks.due("new: pack", x.pack(1, 2, 3), 0);
        checks.due("new: loose change", Checks.change(x, 0, "loose"), 0);
        checks.due("new: setting is 1", Checks.about(x, 0), "-1 1 0 0 0");
    }

    private static void packs() {
        BumpNotes x = new BumpNotes();
        int[][] wrong = {{-1, 0, 0}, {0, -1, 0}, {0, 0, -1}, {100, 0, 0}, {0, 100, 0}, {0, 0, 100},
            {Integer.MIN_VALUE, 0, 0}, {0, Integer.MAX_VALUE, 0}};
        for (int[] parts : wrong) {
            checks.due("pack of wrong parts", x.pack(parts[0], parts[1], parts[2]), -1);
        }
        checks.due("pack 0", x.pack(0, 0, 0), 0);
        checks.due("pack 1", x.pack(99, 99, 99), 1);
        for (int i = 2; i < 10; i++) {
            checks.due("pack " + i, x.pack(i, i + 1, i + 2), i);
        }
        checks.due("pack 10", x.pack(1, 1, 1), -1);
        checks.due("version of 0", Checks.version(x, 0), "0.0.0-0");
        checks.due("version of 1", Checks.version(x, 1), "99.99.99-0");
        checks.due("version of 9", Checks.version(x, 9), "9.10.11-0");
        checks.due("version of 10", Checks.version(x, 10), "-1.-1.-1--1");
        Checks.change(x, 1, "feat!: a");
        x.run();
        checks.due("parts beyond 99", Checks.version(x, 1), "100.0.0-0");
    }

    private static void needs() {
        BumpNotes x = Checks.withPacks(3);
        checks.due("needs itself", x.needs(1, 1, 0), false);
        checks.due("needs of none", x.needs(3, 0, 0), false);
        checks.due("needs of - 1", x.needs(-1, 0, 0), false);
        checks.due("needs none", x.needs(0, 3, 0), false);
        checks.due("needs - 1", x.needs(0, -1, 0), false);
        checks.due("range - 1", x.needs(0, 1, -1), false);
        checks.due("range 4", x.needs(0, 1, 4), false);
        checks.due("needs of far", x.needs(Integer.MAX_VALUE, Integer.MIN_VALUE, 0), false);
        Checks.change(x, 1, "feat!: a");
        checks.due("refused needs carry nothing", x.run(), 1);

        checks.due("needs exactly", x.needs(0, 1, 0), true);
        checks.due("needs by any, in its place", x.needs(0, 1, 3), true);
        Checks.change(x, 1, "feat!: a");
        checks.due("the later range counts", x.run(), 1);
        checks.due("a refused range", x.needs(0, 1, 4), false);
        checks.due("needs by major, in its place", x.needs(0, 1, 2), true);
        checks.due("a second need of one package", x.needs(0, 2, 3), true);
        Checks.change(x, 1, "feat!: a");
        checks.due("a need of another one leaves this one", x.run(), 2);
        checks.due("bump of the needing one", x.bump(0), 1);
    }

    private static void needsByRanges() {
        String[] texts = {"fix: a", "feat: a", "feat!: a"};
        int[][] carried = {{1, 1, 1}, {0, 1, 1}, {0, 0, 1}, {0, 0, 0}};
        for (int range = 0; range < 4; range++) {
            for (int i = 0; i < texts.length; i++) {
                BumpNotes x = Checks.withPacks(2);
                x.needs(1, 0, range);
                Checks.change(x, 0, texts[i]);
                checks.due("run by " + texts[i], x.run(), 1 + carried[range][i]);
                checks.due("range " + range + " by " + texts[i], x.bump(1), carried[range][i]);
            }
        }
        BumpNotes x = Checks.withPacks(3);
        x.needs(1, 0, 0);
        x.needs(2, 0, 1);
        x.pre(0, true);
        Checks.change(x, 0, "fix: a");
        x.run();
        Checks.change(x, 0, "fix: a");
        checks.due("a pre breaks an exact range", x.run(), 2);
        checks.due("a pre breaks no other range", x.bump(2), 0);
        x.pre(0, false);
        Checks.change(x, 0, "fix: a");
        checks.due("the end of a row breaks an exact range", x.run(), 2);
        checks.due("version at the end of the row", Checks.version(x, 0), "1.0.1-0");
        checks.due("the end of a row breaks no other range", x.bump(2), 0);

        BumpNotes young = new BumpNotes();
        young.pack(0, 4, 0);
        young.pack(1, 0, 0);
        young.needs(1, 0, 2);
        Checks.change(young, 0, "feat!: a");
        checks.due("major 0 stays", young.run(), 1);
        checks.due("bump 3 of major 0", young.bump(0), 3);
        checks.due("version by bump 3 of major 0", Checks.version(young, 0), "0.5.0-0");
    }

    private static void needsAreCarriedOn() {
        BumpNotes x = Checks.withPacks(10);
        for (int i = 0; i < 9; i++) {
            x.needs(i, i + 1, 0);
        }
        Checks.change(x, 9, "fix: a");
        checks.due("carried on against the numbers", x.run(), 10);
        checks.due("bump at the far end", x.bump(0), 1);
        x.needs(9, 0, 0);
        Checks.change(x, 4, "feat!: a");
        checks.due("carried on in a ring", x.run(), 10);
        checks.due("a ring leaves the first bump", x.bump(4), 3);
        checks.due("version in the ring", Checks.version(x, 5), "1.0.2-0");
        checks.due("nothing to carry", x.run(), 0);

        BumpNotes y = Checks.withPacks(3);
        y.needs(1, 0, 2);
        y.needs(2, 1, 1);
        Checks.change(y, 0, "feat!: a");
        checks.due("a patch is within the next range", y.run(), 2);
        Checks.change(y, 0, "feat!: a");
        Checks.change(y, 1, "feat: a");
        checks.due("its own minor is not", y.run(), 3);
        checks.due("a carried bump is 1 at least", y.bump(1), 2);
    }

    private static void settings() {
        BumpNotes x = Checks.withPacks(1);
        checks.due("setting - 1", x.setting(-1), false);
        checks.due("setting 3", x.setting(3), false);
        Checks.change(x, 0, "loose");
        for (int v = 0; v < 3; v++) {
            checks.due("setting " + v, x.setting(v), true);
            checks.due("setting 7", x.setting(7), false);
            Checks.change(x, 0, "loose");
        }
        int[] weights = {1, 0, 1, 2};
        for (int i = 0; i < weights.length; i++) {
            checks.due("loose by the setting when it came", x.about(i, 1), weights[i]);
        }
        checks.due("run by loose ones", x.run(), 1);
        checks.due("version by loose ones", Checks.version(x, 0), "1.1.0-0");

        x.setting(0);
        Checks.change(x, 0, "loose");
        checks.due("not counted at all", x.run(), 0);
        x.setting(2);
        checks.due("not counted later either", x.run(), 0);
    }

    private static void preAndFaceOfNoPackage() {
        BumpNotes x = Checks.withPacks(1);
        int[] none = {-1, 1, 10, Integer.MIN_VALUE, Integer.MAX_VALUE};
        for (int pack : none) {
            checks.due("pre of " + pack, x.pre(pack, true), false);
            checks.due("face of " + pack, x.face(pack), false);
        }
        checks.due("pre of 0", x.pre(0, true), true);
        checks.due("pre of 0 again", x.pre(0, true), true);
        checks.due("face of 0", x.face(0), true);
        checks.due("face of 0 again", x.face(0), true);
    }

    private static void versionParts() {
        BumpNotes x = new BumpNotes();
        x.pack(4, 5, 6);
        int[] want = {4, 5, 6, 0};
        for (int part = 0; part < 4; part++) {
            checks.due("part " + part, x.version(0, part), want[part]);
        }
        checks.due("part - 1", x.version(0, -1), -1);
        checks.due("part 4", x.version(0, 4), -1);
        checks.due("version of - 1", x.version(-1, 0), -1);
        checks.due("version of 1", x.version(1, 0), -1);
        checks.due("bump before a run", x.bump(0), 0);
        checks.due("bump of - 1", x.bump(-1), -1);
        checks.due("bump of 1", x.bump(1), -1);
    }
}
