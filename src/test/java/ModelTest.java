import java.util.ArrayList;
import java.util.Arrays;
import java.util.Comparator;
import java.util.HashMap;
import java.util.HashSet;
import java.util.List;
import java.util.Map;
import java.util.Random;
import java.util.Set;
import java.util.regex.Matcher;
import java.util.regex.Pattern;

/** Long runs of calls, each answer against a second writing of the document that goes about it in another way. */
public final class ModelTest {
    private static final Checks checks = new Checks();
    private static final int ROUNDS = 4000;
    private static final int CALLS = 512;
    private static final String[] TEXTS = {"feat: a", "fix: a", "perf: a", "docs: a", "test: a", "chore: a", "feat!: a",
        "fix(core): a", "docs(ab)!: a", "test: BREAKING", "chore: a BREAKING", "perf: aBREAKING", "loose", "", "feat:",
        "feat: ", "fix(): a", "fix(A): a", "docs: BREAKING a", "feat(a)!:  ", "fix: " + "y".repeat(55)};

    public static void main(String[] args) {
        for (int round = 0; round < ROUNDS; round++) {
            new ModelTest(new Random(round), round).play();
        }
        checks.end();
    }

    private final Random random;
    private final int round;
    private final BumpNotes x = new BumpNotes();
    private final Model model = new Model();
    private int calls = 0;

    private ModelTest(Random random, int round) {
        this.random = random;
        this.round = round;
    }

    private void play() {
        int packs = 1 + random.nextInt(11);
        for (int i = 0; i < packs; i++) {
            int[] parts = {small(3), small(3), small(101)};
            due("pack", x.pack(parts[0], parts[1], parts[2]), model.pack(parts[0], parts[1], parts[2]));
        }
        // Some rounds have few changes for each run, so that rows of pre-releases grow long.
        int perRun = 1 + random.nextInt(12);
        while (calls < CALLS - 70) {
            step(perRun);
        }
    }

    private void step(int perRun) {
        int which = random.nextInt(30);
        if (which < 2) {
            int[] a = {somePack(), somePack(), small(6) - 1};
            due("needs", bit(x.needs(a[0], a[1], a[2])), bit(model.needs(a[0], a[1], a[2])));
        } else if (which == 2) {
            int v = small(5) - 1;
            due("setting", bit(x.setting(v)), bit(model.setting(v)));
        } else if (which < 6) {
            int pack = somePack();
            boolean on = random.nextBoolean();
            due("pre", bit(x.pre(pack, on)), bit(model.pre(pack, on)));
        } else if (which < 8) {
            int pack = somePack();
            due("face", bit(x.face(pack)), bit(model.face(pack)));
        } else if (which < 14) {
            write();
            int pack = somePack();
            due("change", x.change(pack), model.change(pack));
        } else if (which < 17) {
            write();
            int change = someChange();
            due("revert", x.revert(change), model.revert(change));
        } else if (which < 20) {
            int[] a = {someChange(), someChange()};
            due("squash", bit(x.squash(a[0], a[1])), bit(model.squash(a[0], a[1])));
        } else if (which < 23) {
            int pack = somePack();
            due("tag", x.tag(pack), model.tag(pack));
        } else if (random.nextInt(perRun) == 0) {
            due("run", x.run(), model.run());
            lookAtAll();
        }
        look();
    }

    private void write() {
        if (random.nextInt(20) == 0) {
            long w = random.nextLong() & (random.nextBoolean() ? 0x7F7F7F7F7F7F7F7FL : 0x7F007F0000007F7FL);
            due("text", bit(x.text(w)), bit(model.text(w)));
        }
        String text = TEXTS[random.nextInt(TEXTS.length)];
        for (int i = 0; i < text.length(); i += 8) {
            long w = Checks.word(text.substring(i, Math.min(i + 8, text.length())));
            due("text", bit(x.text(w)), bit(model.text(w)));
        }
    }

    private void look() {
        int pack = somePack();
        int change = someChange();
        int part = small(6) - 1;
        due("version", x.version(pack, part), model.version(pack, part));
        due("about", x.about(change, part), model.about(change, part));
        due("bump", x.bump(pack), model.bump(pack));
    }

    private void lookAtAll() {
        // These calls are not counted against the 512: they change nothing.
        for (int i = -1; i <= 10; i++) {
            checks.due(name("version"), Checks.version(x, i), model.versionText(i));
            checks.due(name("bump"), x.bump(i), model.bump(i));
            checks.due(name("told"), x.told(i), model.told(i));
        }
        for (int i = -1; i <= 60; i++) {
            checks.due(name("note"), x.note(i), model.note(i));
            for (int what = 0; what < 5; what++) {
                checks.due(name("about"), x.about(i, what), model.about(i, what));
            }
        }
    }

    private void due(String call, long got, long want) {
        calls++;
        checks.due(name(call), got, want);
    }

    private String name(String call) {
        return "round " + round + ", call " + calls + ": " + call;
    }

    private int somePack() {
        return random.nextInt(20) == 0 ? random.nextInt(14) - 2 : random.nextInt(Math.max(1, model.packs.size()));
    }

    private int someChange() {
        int count = model.changes.size();
        return random.nextInt(20) == 0 ? random.nextInt(64) - 2 : Math.max(0, count - 1 - random.nextInt(8));
    }

    private int small(int bound) {
        return random.nextInt(bound);
    }

    private static int bit(boolean b) {
        return b ? 1 : 0;
    }

    /** A package; its version is worked out from its row whenever it is asked for. */
    private static final class ModelPack {
        int[] version;
        int[] ahead;
        List<Integer> row = new ArrayList<>();
        boolean preMode;
        boolean broken;
        int bump;
        Map<Integer, Integer> needs = new HashMap<>();
    }

    private static final class ModelChange {
        int pack;
        int kind;
        int scope;
        int weight;
        boolean out;
        int run;
    }

    private static final class Model {
        private static final Pattern TEXT = Pattern.compile("(feat|fix|perf|docs|test|chore)(?:\\(([a-z]+)\\))?(!)?: (.+)");
        private static final List<String> KINDS = List.of("feat", "fix", "perf", "docs", "test", "chore");

        final List<ModelPack> packs = new ArrayList<>();
        final List<ModelChange> changes = new ArrayList<>();
        private final Set<String> tags = new HashSet<>();
        private String tape = "";
        private int setting = 1;
        private int runs = 0;
        private List<Integer> notes = new ArrayList<>();
        private final List<Integer> told = new ArrayList<>();

        int pack(int a, int b, int c) {
            if (packs.size() == 10 || a > 99 || b > 99 || c > 99) {
                return -1;
            }
            ModelPack one = new ModelPack();
            one.version = new int[] {a, b, c, 0};
            packs.add(one);
            return packs.size() - 1;
        }

        private boolean isPack(int pack) {
            return pack >= 0 && pack < packs.size();
        }

        private boolean isChange(int change) {
            return change >= 0 && change < changes.size();
        }

        boolean needs(int pack, int other, int range) {
            if (!isPack(pack) || !isPack(other) || pack == other || range < 0 || range > 3) {
                return false;
            }
            packs.get(pack).needs.put(other, range);
            return true;
        }

        boolean setting(int v) {
            boolean good = v >= 0 && v <= 2;
            setting = good ? v : setting;
            return good;
        }

        boolean pre(int pack, boolean on) {
            if (isPack(pack)) {
                packs.get(pack).preMode = on;
            }
            return isPack(pack);
        }

        boolean face(int pack) {
            if (isPack(pack)) {
                packs.get(pack).broken = true;
            }
            return isPack(pack);
        }

        boolean text(long w) {
            StringBuilder more = new StringBuilder();
            for (byte b : java.nio.ByteBuffer.allocate(8).putLong(w).array()) {
                if (b != 0) {
                    more.append((char) (b & 0xFF));
                }
            }
            boolean good = more.chars().allMatch(c -> c >= 32 && c <= 126) && tape.length() + more.length() <= 60;
            tape += good ? more : "";
            return good;
        }

        private ModelChange read(int pack) {
            ModelChange one = new ModelChange();
            one.pack = pack;
            Matcher m = TEXT.matcher(tape);
            if (m.matches()) {
                one.kind = KINDS.indexOf(m.group(1));
                one.scope = m.group(2) == null ? 0 : m.group(2).length();
                boolean breaks = m.group(3) != null || (" " + m.group(4)).endsWith(" BREAKING");
                one.weight = breaks ? 3 : one.kind == 0 ? 2 : one.kind <= 2 ? 1 : 0;
            } else {
                one.kind = -1;
                one.weight = setting;
            }
            return one;
        }

        int change(int pack) {
            int answer = -1;
            if (isPack(pack) && changes.size() < 60) {
                changes.add(read(pack));
                answer = changes.size() - 1;
            }
            tape = "";
            return answer;
        }

        int revert(int change) {
            if (!isChange(change) || changes.size() >= 60) {
                tape = "";
                return -1;
            }
            ModelChange old = changes.get(change);
            if (old.out) {
                tape = "";
                return -2;
            }
            int number = change(old.pack);
            ModelChange fresh = changes.get(number);
            if (old.run == 0) {
                old.out = true;
                fresh.out = true;
            } else {
                fresh.weight = 1;
            }
            return number;
        }

        boolean squash(int change, int into) {
            if (!isChange(change) || !isChange(into) || change == into) {
                return false;
            }
            ModelChange a = changes.get(change);
            ModelChange b = changes.get(into);
            if (a.pack != b.pack || a.out || b.out || a.run != 0 || b.run != 0) {
                return false;
            }
            a.out = true;
            b.weight = a.weight > b.weight ? a.weight : b.weight;
            return true;
        }

        private static int[] raised(int[] v, int by) {
            if (by == 3 && v[0] > 0) {
                return new int[] {v[0] + 1, 0, 0, 0};
            }
            return by == 1 ? new int[] {v[0], v[1], v[2] + 1, 0} : new int[] {v[0], v[1] + 1, 0, 0};
        }

        private static int greatest(List<Integer> row) {
            return row.stream().mapToInt(i -> i).max().orElse(0);
        }

        /** The version that the package would have by its bump; nothing is changed. */
        private static int[] newVersion(ModelPack p) {
            if (p.bump == 0) {
                return p.version;
            }
            boolean hasPre = p.version[3] > 0;
            int[] next;
            if (p.preMode && !hasPre) {
                next = raised(p.version, p.bump);
                next[3] = 1;
            } else if (p.preMode && p.bump > greatest(p.row)) {
                next = raised(p.ahead, p.bump);
                next[3] = 1;
            } else if (p.preMode) {
                next = p.version.clone();
                next[3]++;
            } else if (hasPre) {
                next = raised(p.ahead, Math.max(p.bump, greatest(p.row)));
            } else {
                next = raised(p.version, p.bump);
            }
            return next;
        }

        private static void settle(ModelPack p) {
            int[] next = newVersion(p);
            if (p.bump > 0) {
                if (p.version[3] == 0) {
                    p.ahead = p.version;
                    p.row.clear();
                }
                p.row.add(p.bump);
            }
            p.version = next;
        }

        private boolean breaksNeed(ModelPack p) {
            for (Map.Entry<Integer, Integer> need : p.needs.entrySet()) {
                ModelPack other = packs.get(need.getKey());
                int same = new int[] {4, 2, 1, 0}[need.getValue()];
                if (!Arrays.equals(Arrays.copyOf(other.version, same), Arrays.copyOf(newVersion(other), same))) {
                    return true;
                }
            }
            return false;
        }

        int run() {
            runs++;
            for (int i = 0; i < packs.size(); i++) {
                int number = i;
                packs.get(i).bump = changes.stream().filter(c -> c.pack == number && !c.out && c.run == 0)
                    .mapToInt(c -> c.weight).max().orElse(0);
            }
            boolean again = true;
            while (again) {
                again = false;
                for (ModelPack p : packs) {
                    if (p.bump == 0 && breaksNeed(p)) {
                        p.bump = 1;
                        again = true;
                    }
                }
            }
            packs.forEach(Model::settle);
            notes = new ArrayList<>();
            for (int i = 0; i < changes.size(); i++) {
                ModelChange c = changes.get(i);
                if (c.run == 0 && packs.get(c.pack).bump > 0) {
                    c.run = runs;
                    if (!c.out) {
                        notes.add(i);
                    }
                }
            }
            notes.sort(Comparator.comparingInt((Integer i) -> changes.get(i).pack).thenComparingInt(i -> group(changes.get(i)))
                .thenComparingInt(i -> i));
            told.clear();
            for (int i = 0; i < packs.size(); i++) {
                ModelPack p = packs.get(i);
                if (p.broken && p.bump != 3) {
                    told.add(i);
                }
                p.broken &= p.bump == 0;
            }
            return (int) packs.stream().filter(p -> p.bump > 0).count();
        }

        private static int group(ModelChange c) {
            return c.weight == 3 ? -1 : c.kind == -1 ? 99 : c.kind;
        }

        int bump(int pack) {
            return isPack(pack) ? packs.get(pack).bump : -1;
        }

        int version(int pack, int part) {
            return isPack(pack) && part >= 0 && part < 4 ? packs.get(pack).version[part] : -1;
        }

        String versionText(int pack) {
            return version(pack, 0) + "." + version(pack, 1) + "." + version(pack, 2) + "-" + version(pack, 3);
        }

        int about(int change, int what) {
            if (!isChange(change) || what < 0 || what > 4) {
                return -1;
            }
            ModelChange c = changes.get(change);
            return new int[] {c.kind, c.weight, c.out ? 1 : 0, c.run, c.scope}[what];
        }

        int note(int i) {
            return i >= 0 && i < notes.size() ? notes.get(i) : -1;
        }

        int told(int i) {
            return i >= 0 && i < told.size() ? told.get(i) : -1;
        }

        int tag(int pack) {
            if (!isPack(pack)) {
                return -1;
            }
            String name = pack + ":" + versionText(pack);
            if (tags.contains(name)) {
                return 0;
            }
            if (tags.size() >= 100) {
                return -1;
            }
            tags.add(name);
            return 1;
        }
    }
}
