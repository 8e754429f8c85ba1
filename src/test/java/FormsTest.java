/** Promises 8 (sounds), 9 (analyse), 10 (analysis), 11 (cell), 12 (guess) and 13 (guessed). */
public final class FormsTest {
    public static void main(String[] args) {
        soundsOfEnglish();
        soundContexts();
        soundsThatGrow();
        cells();
        analyses();
        guesses();
        formsFollowNewSounds();
        manyForms();
        Check.finish();
    }

    private static void sounds(Check c, int tongue, String word, String due) {
        c.tape(word);
        c.gives("sounds of " + word, c.x.sounds(tongue), due);
    }

    private static void soundsOfEnglish() {
        Check c = Check.full("sounds");
        sounds(c, 0, "boxs", "boxes");
        sounds(c, 0, "flys", "flies");
        sounds(c, 0, "s", "s");
        sounds(c, 0, "ss", "ses");
        sounds(c, 1, "boxs", "boxs");
        for (String none : new String[] {"", "a b", " a", "a ", "A", "a1", Check.times("a", 25)}) {
            c.tape("boxs");
            c.x.sounds(0);
            c.tape(none);
            c.givesNone("sounds of '" + none + "'", c.x.sounds(0), -3);
        }
        sounds(c, 0, Check.times("a", 24), Check.times("a", 24));
        // 24 letters, and one more by the rule.
        c.tape(Check.times("a", 22) + "xs");
        c.givesNone("sounds of too much", c.x.sounds(0), -1);
        c.refuses("sounds of no tongue", () -> c.x.sounds(2));
    }

    private static void soundContexts() {
        Check c = new Check("contexts of sounds");
        c.done("tongue a; sound 'a' > 'b' / 'a' _;", 2);
        // To the left stands what is rewritten already: behind a b there is no a.
        sounds(c, 0, "aaa", "aba");
        c.done("tongue b; sound 'a' > 'b' / _ 'a';", 2);
        sounds(c, 1, "aaa", "bba");
        c.done("tongue c; sound 'ab' > 'x'; sound 'x' > 'yz' / # _;", 3);
        sounds(c, 2, "abab", "yzx");
        c.done("tongue d; letters v = 'ae'; letters none = ''; sound v > '' / v 't' _ #; sound none > 'q'; sound 't' > 'd' / # v _ v;", 6);
        sounds(c, 3, "ata", "at");
        sounds(c, 3, "bata", "bat");
        sounds(c, 3, "atab", "adab");
        sounds(c, 3, "batab", "batab");
        c.done("tongue e; sound 'a' > 'b' / # # _ '' # #; sound 'c' > 'd' / 'x' # _; sound 'c' > 'd' / _ # 'x';", 4);
        sounds(c, 4, "a", "b");
        sounds(c, 4, "aa", "aa");
        sounds(c, 4, "xcx", "xcx");
        c.done("letters w = 'xyz'; sound w > 'k';", 2);
        sounds(c, 4, "xwyzt", "kwkkt");
        c.done("tongue f; sound 'aa' > 'a';", 2);
        // It goes on behind what it has rewritten, and each rule goes over the word once.
        sounds(c, 5, "aaaaa", "aaa");
        c.done("tongue g; sound 'a' > 'b' / 'xy' _; sound 'b' > 'c' / _ 'xy';", 3);
        sounds(c, 6, "xyaxy", "xycxy");
        sounds(c, 6, "yxa", "yxa");
        c.done("tongue h; sound 'a' > '';", 2);
        sounds(c, 7, "banana", "bnn");
        c.tape("aaa");
        c.givesNone("sounds to nothing", c.x.sounds(7), -1);
    }

    private static void soundsThatGrow() {
        Check c = new Check("sounds that grow");
        c.done("tongue t; sound 'a' > 'bb'; sound 'bb' > 'a';", 3);
        // 24 on the way are fine, 26 are not, though they would be 13 in the end.
        sounds(c, 0, Check.times("a", 12), Check.times("a", 12));
        c.tape(Check.times("a", 13));
        c.givesNone("too long on the way", c.x.sounds(0), -1);
        c.done("kind n; fun f : > n; pattern p { = 1 + 1 + 2 }; word f p 'aaaaaa' ''; word f p 'cccccccc' 'cccccccc'; word f p 'ccccccccc' 'ccccccc';", 6);
        c.gives("cell of 12", c.x.cell(0, 0, 0), Check.times("a", 12));
        c.gives("cell of 24", c.x.cell(0, 1, 0), Check.times("c", 24));
        c.givesNone("cell of 25", c.x.cell(0, 2, 0), -1);
    }

    private static void cells() {
        Check c = new Check("cells");
        c.done("kind n; fun f : > n; tongue t; pattern p { = 1 }; feature q = a b; pattern r { a = 1 + 'x' + 2 + 3, b = -, = '' };", 6);
        c.done("word f r 'k' 'l' 'm'; word f r 'k' 'l'; word f r 'k' '' ''; word f p '';", 4);
        c.gives("all stems", c.x.cell(0, 0, 0), "kxlm");
        c.givesNone("lacking", c.x.cell(0, 0, 1), -1);
        c.givesNone("no letters", c.x.cell(0, 0, 2), -1);
        c.givesNone("no third stem", c.x.cell(0, 1, 0), -1);
        c.gives("empty stems", c.x.cell(0, 2, 0), "kx");
        c.givesNone("an empty form", c.x.cell(0, 3, 0), -1);
        c.refuses("no such tongue", () -> c.x.cell(1, 0, 0));
        c.refuses("no such word", () -> c.x.cell(0, 4, 0));
        c.refuses("word below", () -> c.x.cell(0, -1, 0));
        c.refuses("no such cell", () -> c.x.cell(0, 3, 1));
        c.refuses("cell below", () -> c.x.cell(0, 0, -1));
    }

    private static void analyses() {
        Check c = new Check("analyses");
        c.done("kind n; kind v; fun sheep : > n cost 5; fun saw : > v cost 2; tongue t; feature num = sg pl; feature ten = pr pa ft;", 7);
        c.done("pattern p { sg = 1, pl = 1, = 2 }; pattern q { pa = 1, sg pa = 1 }; word sheep p 'x' has ft cost 7; word saw q 'x' has pl pr;", 4);
        c.tape("x");
        c.due("analyse", c.x.analyse(0), 4);
        int[][] due = {{0, 0, 0, 12, 1, 3}, {0, 1, 0, 12, 2, 3}, {1, 0, 1, 2, 2, 2}, {1, 1, 1, 2, 1, 2}};
        for (int i = 0; i < 4; i++) {
            for (int what = 0; what < 12; what++) {
                c.due("analysis " + i + " " + what, c.x.analysis(i, what), what < 6 ? due[i][what] : 0);
            }
        }
        c.due("analysis 4", c.x.analysis(4, 0), -1);
        c.due("analysis -1", c.x.analysis(-1, 0), -1);
        c.refuses("what 12", () -> c.x.analysis(0, 12));
        c.refuses("what -1", () -> c.x.analysis(0, -1));
        c.refuses("what 12 of none", () -> c.x.analysis(9, 12));
        c.refuses("analyse of no tongue", () -> c.x.analyse(1));
        c.due("what throws leaves them", c.x.analysis(3, 0), 1);
        c.tape("y");
        c.due("analyse of none", c.x.analyse(0), 0);
        c.due("none is noted", c.x.analysis(0, 0), -1);
        c.tape("x");
        c.x.analyse(0);
        c.tape("x x");
        c.due("analyse of no word", c.x.analyse(0), -3);
        c.due("none is left", c.x.analysis(0, 0), -1);
        c.tape("");
        c.due("analyse of nothing", c.x.analyse(0), -3);
        c.tape(Check.times("x", 25));
        c.due("analyse of 25 letters", c.x.analyse(0), -3);
        c.tape(Check.times("x", 24));
        c.due("analyse of 24 letters", c.x.analyse(0), 0);
    }

    private static void guesses() {
        Check c = new Check("guesses");
        c.done("kind n; fun f : > n; tongue t; pattern p { = 1, = 1 }; pattern q { = 1 + 'sts' }; pattern unused { = 1 };", 6);
        c.done("feature k = a b; pattern r of p { a = 1, b = 1 };", 2);
        c.done("word f q 'bo'; word f r 'posts'; word f p 'host'; word f q 'a';", 4);
        c.tape("guests");
        c.due("guess by ests", c.x.guess(0), 2);
        int[][] three = {{1, 2, 5, 3}, {3, 3, 5, 3}};
        for (int i = 0; i < 2; i++) {
            for (int what = 0; what < 4; what++) {
                c.due("guessed " + i + " " + what, c.x.guessed(i, what), three[i][what]);
            }
        }
        c.due("guessed 2", c.x.guessed(2, 0), -1);
        c.due("guessed -1", c.x.guessed(-1, 0), -1);
        c.refuses("guessed what 4", () -> c.x.guessed(0, 4));
        c.refuses("guessed what -1", () -> c.x.guessed(0, -1));
        c.tape("xbosts");
        c.due("guess by four, not five letters", c.x.guess(0), 2);
        c.due("how many forms", c.x.guessed(0, 1), 1);
        c.due("of how many", c.x.guessed(0, 2), 4);
        c.due("letters", c.x.guessed(1, 3), 4);
        c.done("word f unused 'k'; word f unused 'qq';", 2);
        c.tape("bosts");
        c.due("a short form has no long ending", c.x.guess(0), 2);
        c.due("of how many", c.x.guessed(0, 2), 4);
        c.tape("t");
        c.due("guess by one", c.x.guess(0), 1);
        c.due("pattern", c.x.guessed(0, 0), 0);
        c.due("letters", c.x.guessed(0, 3), 1);
        c.tape("z");
        c.due("guess by none", c.x.guess(0), 0);
        c.due("none", c.x.guessed(0, 0), -1);
        c.tape("t");
        c.x.guess(0);
        c.tape("t t");
        c.due("guess of no word", c.x.guess(0), -3);
        c.due("none is left", c.x.guessed(0, 0), -1);
        c.refuses("guess of no tongue", () -> c.x.guess(-1));
    }

    private static void manyForms() {
        Check c = new Check("many forms");
        c.done("kind n; fun f : > n; tongue t; feature p = a1 a2 a3 a4 a5 a6; feature q = b1 b2 b3 b4;", 5);
        StringBuilder cells = new StringBuilder();
        for (int i = 0; i < 24; i++) {
            cells.append(i == 0 ? "" : ", ").append("a" + (i % 6 + 1) + " b" + (i / 6 + 1) + " = 1 + '" + (char) ('a' + i) + "'");
        }
        c.done("pattern p { " + cells + " };", 1);
        StringBuilder words = new StringBuilder();
        for (int i = 0; i < 64; i++) {
            words.append("word f p '" + (char) ('a' + i % 8) + (char) ('a' + i / 8) + "';");
        }
        c.done(words.toString(), 64);
        for (int i = 0; i < 64; i += 3) {
            int cell = i * 5 % 24;
            c.tape("" + (char) ('a' + i % 8) + (char) ('a' + i / 8) + (char) ('a' + cell));
            c.due("analyse", c.x.analyse(0), 1);
            c.due("word", c.x.analysis(0, 0), i);
            c.due("cell", c.x.analysis(0, 1), cell);
            c.due("value of p", c.x.analysis(0, 4), cell % 6 + 1);
            c.due("value of q", c.x.analysis(0, 5), cell / 6 + 1);
            c.due("no third feature", c.x.analysis(0, 6), 0);
        }
        c.tape("zzx");
        c.due("guess by x", c.x.guess(0), 1);
        c.due("forms", c.x.guessed(0, 1), 64);
    }

    private static void formsFollowNewSounds() {
        Check c = new Check("new sounds");
        c.done("kind n; fun f : > n; tongue t; pattern p { = 1 }; word f p 'ab';", 5);
        c.gives("cell", c.x.cell(0, 0, 0), "ab");
        c.done("sound 'a' > 'o';", 1);
        c.gives("cell", c.x.cell(0, 0, 0), "ob");
        c.tape("ob");
        c.due("analyse", c.x.analyse(0), 1);
        c.wrongAt("sound 'b' > 'd'; ^?", 1);
        c.gives("cell", c.x.cell(0, 0, 0), "ob");
        c.done("word f p 'ba';", 1);
        c.gives("cell of the new one", c.x.cell(0, 1, 0), "bo");
    }
}
