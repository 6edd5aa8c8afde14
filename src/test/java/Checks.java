/** What the tests share: counting wrong answers, writing texts onto the tape, versions as texts. */
final class Checks {
    private int wrong = 0;
    private String sentence = "";

    /** The sentence of the document that the next answers are due by. */
    void by(String sentence) {
        this.sentence = "[" + sentence + "] ";
    }

    void due(String call, long got, long want) {
        if (got != want) {
            tell(call, String.valueOf(got), String.valueOf(want));
        }
    }

    void due(String call, boolean got, boolean want) {
        due(call, got ? 1 : 0, want ? 1 : 0);
    }

    void due(String call, String got, String want) {
        if (!got.equals(want)) {
            tell(call, got, want);
        }
    }

    private void tell(String call, String got, String want) {
        wrong++;
        System.out.println(sentence + call + " answered " + got + ", due is " + want);
    }

    void end() {
        if (wrong != 0) {
            System.out.println(wrong + " answers are not as due");
            System.exit(1);
        }
    }

    /** The eight characters (or fewer) as one argument of text. */
    static long word(String characters) {
        long w = 0;
        for (int i = 0; i < characters.length(); i++) {
            w = w << 8 | characters.charAt(i);
        }
        return w;
    }

    static boolean write(BumpNotes x, String text) {
        boolean all = true;
        for (int i = 0; i < text.length(); i += 8) {
            all &= x.text(word(text.substring(i, Math.min(i + 8, text.length()))));
        }
        return all;
    }

    static int change(BumpNotes x, int pack, String text) {
        write(x, text);
        return x.change(pack);
    }

    static int revert(BumpNotes x, int change, String text) {
        write(x, text);
        return x.revert(change);
    }

    static String version(BumpNotes x, int pack) {
        return x.version(pack, 0) + "." + x.version(pack, 1) + "." + x.version(pack, 2) + "-" + x.version(pack, 3);
    }

    /** KIND, WEIGHT, OUT, RUN and SCOPE of a change. */
    static String about(BumpNotes x, int change) {
        StringBuilder all = new StringBuilder();
        for (int what = 0; what < 5; what++) {
            all.append(what == 0 ? "" : " ").append(x.about(change, what));
        }
        return all.toString();
    }

    static String notes(BumpNotes x) {
        StringBuilder all = new StringBuilder();
        for (int i = 0; i < 100 && x.note(i) != BumpNotes.NONE; i++) {
            all.append(i == 0 ? "" : " ").append(x.note(i));
        }
        return all.toString();
    }

    static String told(BumpNotes x) {
        StringBuilder all = new StringBuilder();
        for (int i = 0; i < 100 && x.told(i) != BumpNotes.NONE; i++) {
            all.append(i == 0 ? "" : " ").append(x.told(i));
        }
        return all.toString();
    }

    static BumpNotes withPacks(int count) {
        BumpNotes x = new BumpNotes();
        for (int i = 0; i < count; i++) {
            x.pack(1, 0, 0);
        }
        return x;
    }

    /** Numbers that nothing bears as long as there are so many, and never more than so many. */
    static int[] numbersOfNone(int count, int most) {
        return new int[] {-1, -2, count, most, most + 1, Integer.MIN_VALUE, Integer.MAX_VALUE};
    }
}
