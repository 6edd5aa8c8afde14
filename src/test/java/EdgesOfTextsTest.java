/** Promises 6 and 7, and the terms of texts: a test of its own for each sentence that names an edge. */
public final class EdgesOfTextsTest {
    private static final Checks checks = new Checks();
    private static final String[] KINDS = {"feat", "fix", "perf", "docs", "test", "chore"};
    private static final int[] WEIGHTS = {2, 1, 1, 0, 0, 0};
    private static final String LOOSE = "-1 0 0 0 0";

    public static void main(String[] args) {
        upToEightCharacters();
        highestByteFirst();
        zerosLeftOut();
        charactersOutOfTheirBounds();
        noneComeOfWrongCharacters();
        sixtyCharacters();
        moreThanSixty();
        noneComeOfTooMany();
        zerosDoNotCountAsCharacters();
        tapeIsEmptyAfterAChange();
        nothingIsLeftOfALongerText();
        tapeIsEmptyAfterNoPackage();
        tapeIsEmptyAtSixtyChanges();
        changeOfNoPackage();
        sixtyChanges();
        noChangeBeyondSixty();
        kinds();
        eachPartOfTheGrammarMissing();
        eachCharacterOfTheGrammarAnotherOne();
        scopeOfOneLetterAtLeast();
        scopeOfLettersAlone();
        longestScope();
        subjectOfOneCharacterAtLeast();
        subjectOfAnything();
        emptyTextIsLoose();
        looseHasNoKindAndNoScope();
        looseBySettingWhenItCame();
        mark();
        breakingBehindABlank();
        breakingBehindNothing();
        breakingBehindAnythingElse();
        breakingAtTheEndAlone();
        breakingOfLooseTexts();
        weightsOfTheRest();
        checks.end();
    }

    private static void expect(String text, String want) {
        BumpNotes x = Checks.withPacks(1);
        x.setting(0);
        Checks.change(x, 0, text);
        checks.due("about \"" + text + "\"", Checks.about(x, 0), want);
    }

    private static String aboutTape(BumpNotes x) {
        return Checks.about(x, x.change(0));
    }

    private static void upToEightCharacters() {
        checks.by("Promise 6: Up to eight characters come onto the TAPE");
        BumpNotes x = Checks.withPacks(1);
        checks.due("two", x.text(Checks.word("do")), true);
        checks.due("one", x.text(Checks.word("c")), true);
        checks.due("three", x.text(Checks.word("s: ")), true);
        checks.due("eight", x.text(Checks.word("BREAKING")), true);
        checks.due("about", aboutTape(x), "3 3 0 0 0");
    }

    private static void highestByteFirst() {
        checks.by("Promise 6: the highest byte first");
        BumpNotes x = Checks.withPacks(1);
        x.text(0x6669783A20616263L);
        checks.due("fix: abc", aboutTape(x), "1 1 0 0 0");
        x.text(0x636261203A786966L);
        checks.due("cba :xif", aboutTape(x), "-1 1 0 0 0");
    }

    private static void zerosLeftOut() {
        checks.by("Promise 6: 0 ones left out");
        BumpNotes x = Checks.withPacks(1);
        checks.due("ahead of it", x.text(0x0000006665617428L), true);
        checks.due("between", x.text(0x6100620000630029L), true);
        checks.due("behind it", x.text(0x3A20610000000000L), true);
        checks.due("nothing else", x.text(0), true);
        checks.due("about", aboutTape(x), "0 2 0 0 3");
    }

    /** Every character at every place: 0 is left out, 32 .. 126 come, all others are refused. */
    private static void charactersOutOfTheirBounds() {
        checks.by("Promise 6: false if one isn't 32 .. 126");
        for (int shift = 0; shift < 64; shift += 8) {
            for (long character = 0; character < 256; character++) {
                BumpNotes x = new BumpNotes();
                boolean want = character == 0 || character >= 32 && character <= 126;
                long others = 0x6161616161616161L & ~(0xFFL << shift);
                checks.due("character " + character + " alone", x.text(character << shift), want);
                checks.due("character " + character + " among others", x.text(others | character << shift), want);
            }
        }
    }

    private static void noneComeOfWrongCharacters() {
        checks.by("Promise 6: none come, if one isn't 32 .. 126");
        BumpNotes x = Checks.withPacks(1);
        Checks.write(x, "docs: BREAKIN");
        checks.due("31 behind good ones", x.text(0x616161616161611FL), false);
        checks.due("127 ahead of good ones", x.text(0x7F61616161616161L), false);
        checks.due("128 between good ones", x.text(0x6161618061616161L), false);
        checks.due("the rest", x.text(Checks.word("G")), true);
        checks.due("about", aboutTape(x), "3 3 0 0 0");
    }

    private static void sixtyCharacters() {
        checks.by("Terms: a text of at most 60 characters");
        String text = "docs: " + "x".repeat(45) + " BREAKING";
        checks.due("how long it is", text.length(), 60);
        BumpNotes x = Checks.withPacks(1);
        checks.due("60", Checks.write(x, text), true);
        checks.due("the 60th counts", aboutTape(x), "3 3 0 0 0");
        for (int i = 0; i < 60; i++) {
            checks.due("one by one, " + i, x.text(text.charAt(i)), true);
        }
        checks.due("the 60th of 60 calls counts", aboutTape(x), "3 3 0 0 0");
    }

    private static void moreThanSixty() {
        checks.by("Promise 6: false if there would be more than 60");
        for (int there = 53; there <= 60; there++) {
            for (int more = 0; more <= 8; more++) {
                BumpNotes x = Checks.withPacks(1);
                checks.due(there + " characters", Checks.write(x, "x".repeat(there)), true);
                checks.due(more + " more than " + there, x.text(Checks.word("y".repeat(more))), there + more <= 60);
            }
        }
    }

    private static void noneComeOfTooMany() {
        checks.by("Promise 6: none come, if there would be more than 60");
        BumpNotes x = Checks.withPacks(1);
        Checks.write(x, "docs: " + "x".repeat(45) + " BREAKIN");
        checks.due("59 and two", x.text(Checks.word("GG")), false);
        checks.due("59 and eight", x.text(Checks.word("GGGGGGGG")), false);
        checks.due("59 and one", x.text(Checks.word("G")), true);
        checks.due("about", aboutTape(x), "3 3 0 0 0");
    }

    private static void zerosDoNotCountAsCharacters() {
        checks.by("Promise 6: 0 ones left out, also of the 60");
        BumpNotes x = Checks.withPacks(1);
        Checks.write(x, "docs: " + "x".repeat(45) + " BREAKIN");
        checks.due("59, and one among zeros", x.text(0x0000470000000000L), true);
        checks.due("60, and zeros", x.text(0), true);
        checks.due("about", aboutTape(x), "3 3 0 0 0");
    }

    private static void tapeIsEmptyAfterAChange() {
        checks.by("Promise 7: The TAPE is empty then");
        BumpNotes x = Checks.withPacks(1);
        Checks.change(x, 0, "feat(abc)!: a");
        checks.due("the next change has no text", aboutTape(x), "-1 1 0 0 0");
        checks.due("60 characters after it", Checks.write(x, "x".repeat(60)), true);
    }

    private static void nothingIsLeftOfALongerText() {
        checks.by("Promise 7: The TAPE is empty then: no rest completes a shorter text");
        String[] texts = {"fix(abc)!: BREAKING", "fix(abc): d", "fix!: d", "fix: abc"};
        for (String text : texts) {
            for (int length = 0; length < text.indexOf(": ") + 2; length++) {
                BumpNotes x = Checks.withPacks(1);
                Checks.change(x, 0, text);
                Checks.change(x, 0, text.substring(0, length));
                checks.due("cut short: " + text.substring(0, length), Checks.about(x, 1), "-1 1 0 0 0");
            }
        }
        BumpNotes x = Checks.withPacks(1);
        Checks.change(x, 0, "docs: a BREAKING");
        Checks.change(x, 0, "docs: a BREAKIN");
        checks.due("a BREAKING cut short", Checks.about(x, 1), "3 0 0 0 0");
    }

    private static void tapeIsEmptyAfterNoPackage() {
        checks.by("Promise 7: empty in any case: no such PACKAGE");
        for (int none : Checks.numbersOfNone(1, 10)) {
            BumpNotes x = Checks.withPacks(1);
            Checks.change(x, none, "feat(abc)!: a");
            checks.due("after a change of " + none, aboutTape(x), "-1 1 0 0 0");
        }
    }

    /** No change can come any more, so that the room on the tape tells. */
    private static void tapeIsEmptyAtSixtyChanges() {
        checks.by("Promise 7: empty in any case: there are 60");
        BumpNotes x = Checks.withPacks(1);
        for (int i = 0; i < 60; i++) {
            x.change(0);
        }
        checks.due("60 characters", Checks.write(x, "x".repeat(60)), true);
        checks.due("61", x.text('x'), false);
        checks.due("change", x.change(0), -1);
        checks.due("60 characters again", Checks.write(x, "x".repeat(60)), true);
    }

    private static void changeOfNoPackage() {
        checks.by("Promise 7: NONE if there is no such PACKAGE");
        BumpNotes x = Checks.withPacks(2);
        for (int none : Checks.numbersOfNone(2, 10)) {
            checks.due("change of " + none, Checks.change(x, none, "feat: a"), -1);
        }
        checks.due("none came", x.about(0, 0), -1);
        checks.due("no bump by them", x.run(), 0);
        checks.due("the first change", Checks.change(x, 1, "feat: a"), 0);
    }

    private static void sixtyChanges() {
        checks.by("Terms: CHANGES, at most 60, numbered from 0 as they come");
        BumpNotes x = Checks.withPacks(3);
        for (int i = 0; i < 60; i++) {
            int number = i % 5 == 4 ? Checks.revert(x, i - 1, "fix: a") : Checks.change(x, i % 3, "fix: a");
            checks.due("change " + i, number, i);
            checks.due("behind it", x.about(i + 1, 0), -1);
        }
        checks.due("the 60th", Checks.about(x, 59), "1 1 1 0 0");
    }

    private static void noChangeBeyondSixty() {
        checks.by("Promise 7: NONE if there are 60");
        BumpNotes x = Checks.withPacks(1);
        for (int i = 0; i < 60; i++) {
            Checks.change(x, 0, "fix: a");
        }
        checks.due("change 60", Checks.change(x, 0, "feat!: a"), -1);
        checks.due("none came", Checks.about(x, 60), "-1 -1 -1 -1 -1");
        x.run();
        checks.due("bump by the 60", x.bump(0), 1);
        checks.due("still 60, released or not", Checks.change(x, 0, "fix: a"), -1);
        checks.due("the last in the notes", x.note(59), 59);
    }

    private static void kinds() {
        checks.by("Terms: KIND told by 0 .. 5");
        for (int i = 0; i < KINDS.length; i++) {
            expect(KINDS[i] + ": a", i + " " + WEIGHTS[i] + " 0 0 0");
            expect(KINDS[i].substring(1) + ": a", LOOSE);
            expect(KINDS[i].substring(0, KINDS[i].length() - 1) + ": a", LOOSE);
            expect(KINDS[i] + "s: a", LOOSE);
            expect(" " + KINDS[i] + ": a", LOOSE);
            expect(KINDS[i].toUpperCase() + ": a", LOOSE);
        }
        expect("build: a", LOOSE);
        expect("revert: a", LOOSE);
    }

    private static void eachPartOfTheGrammarMissing() {
        checks.by("Terms: KIND [ ( SCOPE ) ] [ ! ] : blank SUBJECT");
        expect("fix(ab)!: a", "1 3 0 0 2");
        expect("fix(ab): a", "1 1 0 0 2");
        expect("fix!: a", "1 3 0 0 0");
        expect("fix: a", "1 1 0 0 0");
        String[] loose = {"(ab)!: a", "!: a", ": a", " a", "a", "fixab)!: a", "fix(ab!: a", "fix(ab: a", "fixab: a",
            "fix(ab)! a", "fix! a", "fix a", "fix(ab)!:a", "fix!:a", "fix:a", "fix(ab)!: ", "fix!: ", "fix: ",
            "fix(ab)!:", "fix!:", "fix:", "fix(ab)!", "fix!", "fix", "fix(ab)", "fix(ab", "fix(", "fix!(ab): a",
            "fix!!: a", "fix(ab)!!: a", "fix(a)(b): a", "fix((a)): a", "fix (ab): a", "fix(ab) : a", "fix :a",
            "fix : a"};
        for (String text : loose) {
            expect(text, LOOSE);
        }
    }

    private static void eachCharacterOfTheGrammarAnotherOne() {
        checks.by("Terms: A text that isn't so is LOOSE");
        String[] texts = {"fix(ab)!: q", "fix(ab): q", "fix!: q", "fix: q"};
        String[] want = {"1 3 0 0 2", "1 1 0 0 2", "1 3 0 0 0", "1 1 0 0 0"};
        for (int i = 0; i < texts.length; i++) {
            for (int at = 0; at < texts[i].length(); at++) {
                for (char c = 32; c <= 126; c++) {
                    char old = texts[i].charAt(at);
                    boolean free = old == 'q' || (old == 'a' || old == 'b') && c >= 'a' && c <= 'z';
                    String text = texts[i].substring(0, at) + c + texts[i].substring(at + 1);
                    expect(text, c == old || free ? want[i] : LOOSE);
                }
            }
        }
    }

    private static void scopeOfOneLetterAtLeast() {
        checks.by("Terms: SCOPE: one at least");
        for (int i = 0; i < KINDS.length; i++) {
            expect(KINDS[i] + "(): a", LOOSE);
            expect(KINDS[i] + "()!: a", LOOSE);
            expect(KINDS[i] + "(q): a", i + " " + WEIGHTS[i] + " 0 0 1");
        }
    }

    private static void scopeOfLettersAlone() {
        checks.by("Terms: SCOPE: letters a .. z");
        for (char c = 32; c <= 126; c++) {
            boolean letter = c >= 'a' && c <= 'z';
            expect("fix(" + c + "): a", letter ? "1 1 0 0 1" : LOOSE);
            expect("fix(a" + c + "): a", letter ? "1 1 0 0 2" : LOOSE);
            expect("fix(" + c + "z): a", letter ? "1 1 0 0 2" : LOOSE);
        }
    }

    private static void longestScope() {
        checks.by("Terms: SCOPE in a text of 60 characters");
        expect("fix(" + "z".repeat(52) + "): a", "1 1 0 0 52");
        expect("fix(" + "z".repeat(51) + ")!: a", "1 3 0 0 51");
        expect("fix(" + "z".repeat(56), LOOSE);
        expect("fix(" + "z".repeat(55) + ")", LOOSE);
        expect("fix(" + "z".repeat(54) + "):", LOOSE);
        expect("fix(" + "z".repeat(54) + ")!", LOOSE);
        expect("fix(" + "z".repeat(53) + "): ", LOOSE);
        expect("fix(" + "z".repeat(52) + ")!: ", LOOSE);
    }

    private static void subjectOfOneCharacterAtLeast() {
        checks.by("Terms: SUBJECT: one character at least");
        for (int i = 0; i < KINDS.length; i++) {
            expect(KINDS[i] + ": ", LOOSE);
            expect(KINDS[i] + "(ab)!: ", LOOSE);
            expect(KINDS[i] + ": b", i + " " + WEIGHTS[i] + " 0 0 0");
        }
    }

    private static void subjectOfAnything() {
        checks.by("Terms: SUBJECT: anything");
        for (char c = 32; c <= 126; c++) {
            expect("fix: " + c, "1 1 0 0 0");
            expect("fix: " + c + c, "1 1 0 0 0");
        }
        expect("fix: " + "~".repeat(55), "1 1 0 0 0");
    }

    private static void emptyTextIsLoose() {
        checks.by("Terms: A text that isn't so is LOOSE: an empty one");
        expect("", LOOSE);
        BumpNotes x = Checks.withPacks(1);
        checks.due("change", x.change(0), 0);
        checks.due("about", Checks.about(x, 0), "-1 1 0 0 0");
    }

    private static void looseHasNoKindAndNoScope() {
        checks.by("Terms: LOOSE: it has KIND NONE");
        BumpNotes x = Checks.withPacks(1);
        Checks.change(x, 0, "feat(abc): a");
        Checks.change(x, 0, "feat(abc):a");
        checks.due("kind", x.about(1, 0), BumpNotes.NONE);
        checks.due("scope", x.about(1, 4), 0);
    }

    private static void looseBySettingWhenItCame() {
        checks.by("Terms: LOOSE counts by the SETTING when it came");
        String[] versions = {"1.0.0-0", "1.0.1-0", "1.1.0-0"};
        for (int v = 0; v < 3; v++) {
            BumpNotes x = Checks.withPacks(1);
            x.setting(v);
            Checks.write(x, "loose");
            x.change(0);
            x.setting((v + 1) % 3);
            checks.due("weight by setting " + v, x.about(0, 1), v);
            checks.due("run by setting " + v, x.run(), Math.min(v, 1));
            checks.due("version by setting " + v, Checks.version(x, 0), versions[v]);
        }
        BumpNotes x = Checks.withPacks(1);
        x.setting(0);
        Checks.write(x, "loose");
        x.setting(2);
        checks.due("it comes with the change, not with its text", aboutTape(x), "-1 2 0 0 0");
    }

    private static void mark() {
        checks.by("Terms: WEIGHT 3 if it has the !");
        for (int i = 0; i < KINDS.length; i++) {
            expect(KINDS[i] + "!: a", i + " 3 0 0 0");
            expect(KINDS[i] + "(ab)!: a", i + " 3 0 0 2");
            expect(KINDS[i] + ": !", i + " " + WEIGHTS[i] + " 0 0 0");
            expect(KINDS[i] + ": a!", i + " " + WEIGHTS[i] + " 0 0 0");
        }
    }

    private static void breakingBehindABlank() {
        checks.by("Terms: BREAKING, ahead of which there is a blank");
        for (int i = 0; i < KINDS.length; i++) {
            expect(KINDS[i] + ": a BREAKING", i + " 3 0 0 0");
            expect(KINDS[i] + "(ab):  BREAKING", i + " 3 0 0 2");
            expect(KINDS[i] + ": BREAKING BREAKING", i + " 3 0 0 0");
        }
    }

    private static void breakingBehindNothing() {
        checks.by("Terms: BREAKING, ahead of which there is nothing");
        for (int i = 0; i < KINDS.length; i++) {
            expect(KINDS[i] + ": BREAKING", i + " 3 0 0 0");
            expect(KINDS[i] + "(ab): BREAKING", i + " 3 0 0 2");
        }
    }

    private static void breakingBehindAnythingElse() {
        checks.by("Terms: BREAKING behind anything else");
        for (char c = 33; c <= 126; c++) {
            expect("docs: " + c + "BREAKING", "3 0 0 0 0");
            expect("docs:  " + c + "BREAKING", "3 0 0 0 0");
        }
    }

    private static void breakingAtTheEndAlone() {
        checks.by("Terms: its SUBJECT ends with BREAKING");
        String[] subjects = {"BREAKIN", "REAKING", "a BREAKIN", "a REAKING", "BREAKING ", "BREAKING a", "BREAKING:",
            "breaking", "a Breaking", "BREAKINGS", "BREAKING.", "B REAKING", "XREAKING", "BREAKINX", "BREAXING", "G"};
        for (String subject : subjects) {
            expect("docs: " + subject, "3 0 0 0 0");
        }
    }

    private static void breakingOfLooseTexts() {
        checks.by("Terms: LOOSE ones have no SUBJECT that could end with BREAKING");
        String[] texts = {"BREAKING", "a BREAKING", "fix BREAKING", "fix:BREAKING", "build: BREAKING",
            "fix(): BREAKING", "fix(a)! BREAKING"};
        for (String text : texts) {
            expect(text, LOOSE);
        }
    }

    private static void weightsOfTheRest() {
        checks.by("Terms: else 2 feat, 1 fix or perf, 0 others");
        String[] versions = {"1.0.0-0", "1.0.1-0", "1.1.0-0"};
        for (int i = 0; i < KINDS.length; i++) {
            BumpNotes x = Checks.withPacks(1);
            Checks.change(x, 0, KINDS[i] + ": a");
            checks.due("weight of " + KINDS[i], x.about(0, 1), WEIGHTS[i]);
            checks.due("run by " + KINDS[i], x.run(), Math.min(WEIGHTS[i], 1));
            checks.due("version by " + KINDS[i], Checks.version(x, 0), versions[WEIGHTS[i]]);
        }
    }
}
