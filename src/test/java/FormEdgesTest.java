/** The edges that Terms 3 and promises 8 to 13 name: each method is for the words of the document above it. */
public final class FormEdgesTest {
    public static void main(String[] args) {
        aStemThatItHasNot();
        twentyFourLetters();
        onTheWay();
        noLetters();
        eachOnceOverTheWord();
        leftAndRight();
        theBorder();
        theEndOfTheWord();
        valuesOfAForm();
        analysesInOrder();
        asManyAnalysesAsCanBe();
        theLongestEnding();
        shortForms();
        guessesOfEachPattern();
        wordsOnTheTape();
        soundsThatLack();
        whatOfAnAnalysis();
        analysesOfAnotherTongue();
        whatOfAGuess();
        noSuchWordOrCell();
        Check.finish();
    }

    private static void sounds(Check c, int tongue, String word, String due) {
        c.tape(word);
        c.gives("sounds of " + word, c.x.sounds(tongue), due);
    }

    private static void lacks(Check c, int tongue, String word) {
        sounds(c, tongue, "zz", "zz");
        c.tape(word);
        c.givesNone("sounds of " + word, c.x.sounds(tongue), -1);
    }

    // "(a stem that it has not: nothing; the CELL lacks then as by -)"
    private static void aStemThatItHasNot() {
        Check c = new Check("a stem that it has not");
        c.done("kind n; fun x : > n; tongue t; feature f = a b c d e g; pattern p { a = 1, b = 2, c = 3, d = 'z' + 2, e = 3 + 'z', g = - };", 5);
        c.done("word x p 'k'; word x p 'k' 'l'; word x p 'k' 'l' 'm'; word x p '' 'l' ''; word x p 'k' '';", 5);
        String[][] due = {{"k", null, null, null, null, null}, {"k", "l", null, "zl", null, null}, {"k", "l", "m", "zl", "mz", null},
            {null, "l", null, "zl", "z", null}, {"k", null, null, "z", null, null}};
        for (int w = 0; w < due.length; w++) {
            for (int i = 0; i < 6; i++) {
                if (due[w][i] == null) {
                    c.givesNone("cell " + i + " of " + w, c.x.cell(0, w, i), -1);
                } else {
                    c.gives("cell " + i + " of " + w, c.x.cell(0, w, i), due[w][i]);
                }
            }
        }
        // What lacks is the form of no word, and is never said.
        c.tape("z");
        c.due("analyse", c.x.analyse(0), 2);
        c.tape("x");
        c.x.tree(0);
        c.givesNone("the OPTIONS are the forms that there are", c.x.say(0, 0, 14), -1);
        c.due("the last of them", c.x.say(0, 0, 13), 1);
    }

    // "A form of more than 24 letters (also on the way), or of none, lacks."
    private static void twentyFourLetters() {
        Check c = new Check("24 letters");
        c.done("kind n; fun x : > n; tongue t; feature f = a b c; pattern p { a = 1 + 2, b = 1 + 'z' + 2, c = 1 + 1 + 1 };", 5);
        c.done("word x p 'abcdefghijkl' 'abcdefghijkl'; word x p 'abcdefghijkl' 'abcdefghijk'; word x p 'abcdefgh' 'a';", 3);
        c.gives("24", c.x.cell(0, 0, 0), "abcdefghijklabcdefghijkl");
        c.givesNone("25", c.x.cell(0, 0, 1), -1);
        c.givesNone("36", c.x.cell(0, 0, 2), -1);
        c.gives("23", c.x.cell(0, 1, 0), "abcdefghijklabcdefghijk");
        c.gives("24", c.x.cell(0, 1, 1), "abcdefghijklzabcdefghijk");
        c.gives("24", c.x.cell(0, 2, 2), "abcdefghabcdefghabcdefgh");
        c.tape("abcdefghijklabcdefghijkl");
        c.due("it is found", c.x.analyse(0), 1);
        c.done("sound 'z' > '';", 1);
        // 25 letters ahead of the rule are too many, though they would be 24.
        c.givesNone("25 at first", c.x.cell(0, 0, 1), -1);
        c.gives("24 at first", c.x.cell(0, 1, 1), "abcdefghijklabcdefghijk");
    }

    // "(also on the way)"
    private static void onTheWay() {
        Check c = new Check("on the way");
        c.done("tongue t; sound 'a' > 'bb'; sound 'b' > ''; tongue u; sound 'a' > 'bcd' / _ #; sound 'bc' > ''; tongue v; sound 'a' > 'bb'; sound 'bb' > 'a';", 9);
        sounds(c, 0, Check.times("c", 22) + "a", Check.times("c", 22));
        lacks(c, 0, Check.times("c", 23) + "a");
        lacks(c, 0, "a" + Check.times("c", 23));
        sounds(c, 1, Check.times("c", 21) + "a", Check.times("c", 21) + "d");
        lacks(c, 1, Check.times("c", 22) + "a");
        sounds(c, 2, Check.times("a", 12), Check.times("a", 12));
        lacks(c, 2, Check.times("a", 13));
        lacks(c, 2, Check.times("a", 24));
        sounds(c, 2, "c" + Check.times("a", 11) + "c", "c" + Check.times("a", 11) + "c");
    }

    private static void noLetters() {
        Check c = new Check("no letters");
        c.done("kind n; fun x : > n; tongue t; feature f = a b; pattern p { a = 1, b = 1 + 2 }; sound 'a' > ''; sound 'b' > 'c';", 7);
        c.done("word x p '' ''; word x p 'a' 'a'; word x p 'a' 'b'; word x p 'aaaaaaaaaaaa' 'aaaaaaaaaaaa';", 4);
        c.givesNone("no stem letters", c.x.cell(0, 0, 0), -1);
        c.givesNone("no stem letters", c.x.cell(0, 0, 1), -1);
        c.givesNone("none is left", c.x.cell(0, 1, 0), -1);
        c.givesNone("none is left", c.x.cell(0, 1, 1), -1);
        c.givesNone("none is left", c.x.cell(0, 2, 0), -1);
        c.gives("one is left", c.x.cell(0, 2, 1), "c");
        c.givesNone("none of 24 is left", c.x.cell(0, 3, 1), -1);
        lacks(c, 0, "a");
        lacks(c, 0, "aa");
        lacks(c, 0, Check.times("a", 24));
        sounds(c, 0, Check.times("a", 23) + "b", "c");
    }

    // "SOUND RULES, in order, each once over the word: from left to right .. and it goes on behind it"
    private static void eachOnceOverTheWord() {
        Check c = new Check("each once");
        c.done("tongue a; sound 'aa' > 'a'; tongue b; sound 'a' > 'aa'; tongue d; sound 'ab' > 'b'; tongue e; sound 'a' > 'b'; sound 'b' > 'a';", 9);
        sounds(c, 0, "aaaa", "aa");
        sounds(c, 0, "aaaaa", "aaa");
        sounds(c, 1, "aba", "aabaa");
        sounds(c, 2, "aab", "ab");
        sounds(c, 2, "abab", "bb");
        sounds(c, 3, "ab", "aa");
        c.done("tongue f; sound 'aba' > 'x'; tongue g; letters l = 'abc'; sound l > 'ab'; tongue h; sound 'a' > 'b' / _ 'a'; sound 'bb' > 'c';", 8);
        sounds(c, 4, "ababa", "xba");
        sounds(c, 5, "cd", "abd");
        sounds(c, 6, "aaa", "ca");
    }

    // "(to the left what is rewritten already, to the right what is not; LETTERS one by one, a CLASS one letter of it ..)"
    private static void leftAndRight() {
        Check c = new Check("left and right");
        c.done("tongue a; sound 'a' > 'b' / 'b' _; tongue b; sound 'a' > 'b' / _ 'b'; tongue d; sound 'a' > 'b' / 'a' _;", 6);
        sounds(c, 0, "baaa", "bbbb");
        sounds(c, 0, "aaab", "aaab");
        sounds(c, 1, "aaab", "aabb");
        sounds(c, 2, "aaaa", "abab");
        c.done("tongue e; letters v = 'aeiou'; letters none = ''; sound 'x' > 'y' / v _ v; sound 'z' > 'y' / none _; sound 'z' > 'y' / _ none;", 6);
        sounds(c, 3, "axe", "aye");
        sounds(c, 3, "axaxa", "ayaya");
        sounds(c, 3, "xa", "xa");
        sounds(c, 3, "ax", "ax");
        sounds(c, 3, "aexe", "aeye");
        sounds(c, 3, "bxe", "bxe");
        sounds(c, 3, "axb", "axb");
        sounds(c, 3, "aza", "aza");
        c.done("tongue f; letters w = 'pq'; sound 'x' > 'y' / 'ab' w _ w 'cd'; sound 'u' > 'y' / 'abc' _ 'abc'; sound 'k' > 'y' / '' _ '';", 5);
        sounds(c, 4, "abpxqcd", "abpyqcd");
        sounds(c, 4, "apxqcd", "apxqcd");
        sounds(c, 4, "abpxqc", "abpxqc");
        sounds(c, 4, "abxqcd", "abxqcd");
        sounds(c, 4, "bapxqcd", "bapxqcd");
        sounds(c, 4, "abpxqdc", "abpxqdc");
        sounds(c, 4, "abcuabc", "abcyabc");
        sounds(c, 4, "bcuabc", "bcuabc");
        sounds(c, 4, "abcuab", "abcuab");
        sounds(c, 4, "xbcuabc", "xbcuabc");
        sounds(c, 4, "akk", "ayy");
    }

    // "# just the border"
    private static void theBorder() {
        Check c = new Check("the border");
        c.done("tongue a; sound 'a' > 'b' / # _; tongue b; sound 'a' > 'b' / _ #; tongue d; sound 'a' > 'b' / # _ #; tongue e; sound 'a' > 'b' / _ # 'c'; sound 'a' > 'b' / 'c' # _;", 9);
        sounds(c, 0, "aaa", "baa");
        sounds(c, 1, "aaa", "aab");
        sounds(c, 2, "aaa", "aaa");
        sounds(c, 2, "a", "b");
        sounds(c, 3, "aca", "aca");
        c.done("tongue f; sound 'a' > '' / # _; tongue g; sound 'a' > 'b' / # 'c' _ 'd' #; tongue h; sound 'a' > 'b' / # # _ # # #;", 6);
        // To the left stands what is rewritten already: nothing, so that it is still the border.
        sounds(c, 4, "aab", "b");
        sounds(c, 5, "cad", "cbd");
        sounds(c, 5, "ccad", "ccad");
        sounds(c, 5, "cadd", "cadd");
        sounds(c, 6, "a", "b");
        sounds(c, 6, "aa", "aa");
    }

    // LHS and C stand within the word: what an earlier word had there is nothing.
    private static void theEndOfTheWord() {
        Check c = new Check("the end of the word");
        c.done("tongue a; sound 'abc' > 'x'; tongue b; sound 'x' > 'y' / _ 'ab'; tongue d; letters l = 'c'; sound 'x' > 'y' / _ l; tongue e; sound 'x' > 'y' / 'ab' _;", 9);
        String[] words = {"zabc", "zab", "za", "abc", "ab"};
        String[] due = {"zx", "zab", "za", "x", "ab"};
        for (int i = 0; i < words.length; i++) {
            sounds(c, 0, "zzabc", "zzx");
            sounds(c, 0, words[i], due[i]);
        }
        sounds(c, 1, "xab", "yab");
        sounds(c, 1, "xa", "xa");
        sounds(c, 1, "xab", "yab");
        sounds(c, 1, "x", "x");
        sounds(c, 2, "xc", "yc");
        sounds(c, 2, "x", "x");
        sounds(c, 3, "abx", "aby");
        sounds(c, 3, "bx", "bx");
        sounds(c, 3, "x", "x");
    }

    // "Its VALUES are those of the CELL, and those that it has for FEATURES of which the CELL says nothing."
    private static void valuesOfAForm() {
        Check c = new Check("values of a form");
        c.done("kind n; fun x : > n; tongue t; feature f = a b; feature g = c d e; pattern p { = 1, a = 1 + 'a', e = 1 + 'e', b c = 1 + 'bc' };", 6);
        c.done("word x p 'o'; word x p 'm' has b; word x p 'u' has d a;", 3);
        String[] words = {"o", "oa", "oe", "obc", "m", "ma", "me", "mbc", "u", "ua", "ue", "ubc"};
        int[][] due = {{0, 0}, {1, 0}, {0, 3}, {2, 1}, {2, 0}, {1, 0}, {2, 3}, {2, 1}, {1, 2}, {1, 2}, {1, 3}, {2, 1}};
        for (int i = 0; i < words.length; i++) {
            c.tape(words[i]);
            c.due("analyse " + words[i], c.x.analyse(0), 1);
            c.due("f of " + words[i], c.x.analysis(0, 4), due[i][0]);
            c.due("g of " + words[i], c.x.analysis(0, 5), due[i][1]);
            c.due("a feature that is not there", c.x.analysis(0, 6), 0);
            c.due("the last that could be there", c.x.analysis(0, 11), 0);
        }
    }

    // "ANALYSES of a word: each WORD, by number, each CELL, by number, whose form it is."
    private static void analysesInOrder() {
        Check c = new Check("analyses in order");
        c.done("kind n; fun y : > n cost 4; fun x : > n; tongue t; feature f = a b c d; pattern p { a = 2, b = 1, c = -, d = 1 }; pattern q { d = 1, a = 3 };", 7);
        c.done("word x p 'o' 'm'; word y q 'o' 'm' 'o' cost 3; word x q 'm'; word y p 'm' 'o';", 4);
        c.tape("o");
        c.due("analyse", c.x.analyse(0), 5);
        int[][] due = {{0, 1, 1, 0, 2}, {0, 3, 1, 0, 4}, {1, 0, 0, 7, 4}, {1, 1, 0, 7, 1}, {3, 0, 0, 4, 1}};
        for (int i = 0; i < due.length; i++) {
            for (int what = 0; what < 5; what++) {
                c.due("analysis " + i + " " + what, c.x.analysis(i, what), due[i][what]);
            }
        }
        c.due("no more", c.x.analysis(5, 0), -1);
    }

    private static void asManyAnalysesAsCanBe() {
        Check c = new Check("1536 analyses");
        c.done("kind n; fun x : > n; tongue t; feature f = a1 a2 a3 a4 a5 a6; feature g = b1 b2 b3 b4;", 5);
        StringBuilder cells = new StringBuilder();
        for (int i = 0; i < 24; i++) {
            cells.append(i == 0 ? "" : ",").append("a" + (i % 6 + 1) + " b" + (i / 6 + 1) + "=1");
        }
        c.done("pattern p {" + cells + "};" + Check.times("word x p 'a';", 40), 41);
        c.done(Check.times("word x p 'a';", 24), 24);
        c.tape("a");
        c.due("analyse", c.x.analyse(0), 1536);
        for (int i : new int[] {0, 23, 24, 87, 88, 89, 1000, 1535}) {
            c.due("word of " + i, c.x.analysis(i, 0), i / 24);
            c.due("cell of " + i, c.x.analysis(i, 1), i % 24);
        }
        c.due("no more", c.x.analysis(1536, 0), -1);
        c.tape("a");
        c.due("guess", c.x.guess(0), 1);
        c.due("forms", c.x.guessed(0, 1), 1536);
        c.tape("a");
        c.due("parse", c.x.parse(0, 0), 1);
        c.due("trees", c.x.trees(), 1536);
        c.due("nodes", c.x.count(0, 5), 24);
    }

    // "by its ending: the longest one (of four letters at most, and of one at least) that forms of the TONGUE have"
    private static void theLongestEnding() {
        Check c = new Check("the longest ending");
        c.done("kind n; fun x : > n; tongue t; pattern p { = 1 }; pattern q { = 1 };", 5);
        c.done("word x p 'zabcde'; word x q 'yabcde'; word x p 'xbcde'; word x q 'cde'; word x p 'de'; word x p 'e'; word x q 'k';", 7);
        // Five letters are the same, but four are looked at.
        guess(c, "zabcde", 4, 2, 0, 2, 1, 1);
        guess(c, "abcde", 4, 2, 0, 2, 1, 1);
        guess(c, "bcde", 4, 2, 0, 2, 1, 1);
        guess(c, "qcde", 3, 2, 0, 2, 1, 2);
        guess(c, "cde", 3, 2, 0, 2, 1, 2);
        guess(c, "qqde", 2, 2, 0, 3, 1, 2);
        guess(c, "qqqe", 1, 2, 0, 4, 1, 2);
        guess(c, "e", 1, 2, 0, 4, 1, 2);
        guess(c, "ek", 1, 1, 1, 1);
        guess(c, "kq", 0, 0);
        guess(c, "q", 0, 0);
        guess(c, Check.times("q", 23) + "k", 1, 1, 1, 1);
    }

    /** So many letters, so many PATTERNS, then each PATTERN and its forms. */
    private static void guess(Check c, String word, int letters, int patterns, int... due) {
        c.tape(word);
        c.due("guess " + word, c.x.guess(0), patterns);
        int all = 0;
        for (int i = 0; i < patterns; i++) {
            all += due[2 * i + 1];
        }
        for (int i = 0; i < patterns; i++) {
            c.due(word + ": pattern", c.x.guessed(i, 0), due[2 * i]);
            c.due(word + ": forms", c.x.guessed(i, 1), due[2 * i + 1]);
            c.due(word + ": of all", c.x.guessed(i, 2), all);
            c.due(word + ": letters", c.x.guessed(i, 3), letters);
        }
        c.due(word + ": no more", c.x.guessed(patterns, 0), -1);
    }

    private static void shortForms() {
        Check c = new Check("short forms");
        // The first form is shorter than the endings that are looked for, and no letters of another one are ahead of it.
        c.done("kind n; fun x : > n; tongue t; pattern p { = 1 }; word x p 'c'; word x p 'abc'; word x p 'c'; word x p 'zab'; word x p 'c';", 9);
        guess(c, "abc", 3, 1, 0, 1);
        guess(c, "zzabc", 3, 1, 0, 1);
        guess(c, "bc", 2, 1, 0, 1);
        guess(c, "zabc", 3, 1, 0, 1);
        guess(c, "c", 1, 1, 0, 4);
    }

    // "for each PATTERN, by number, how many of these forms are of its WORDS"
    private static void guessesOfEachPattern() {
        Check c = new Check("guesses of each pattern");
        c.done("kind n; fun x : > n; tongue t; feature f = a b c; pattern p0 { a = 1, b = 1, c = 2 + 'o' }; pattern p1 { = 1 }; pattern p2 { a = 1 + 'o', b = -, c = 1 + 'o' };", 7);
        c.done("word x p2 'k'; word x p0 'go' 'g'; word x p2 'l'; word x p0 'm'; pattern p3 of p2 { b = 1 + 'o' }; word x p3 'k';", 6);
        guess(c, "o", 1, 3, 0, 3, 2, 4, 3, 3);
        guess(c, "ko", 2, 2, 2, 2, 3, 3);
        guess(c, "xm", 1, 1, 0, 2);
    }

    // "(1 to 24 letters alone, else -3)"; analyse, guess: "the word on THE TAPE (else -3)"
    private static void wordsOnTheTape() {
        Check c = Check.full("words on the tape");
        String[] none = {"", " ", "a b", " a", "a ", "A", "a1", "1", "'a'", "a;", "a-b", Check.times("a", 25), Check.times("a", 60), "\u00e9", "{", "`"};
        for (String text : none) {
            c.tape(text);
            c.givesNone("sounds of '" + text + "'", c.x.sounds(0), -3);
            c.tape(text);
            c.due("analyse '" + text + "'", c.x.analyse(0), -3);
            c.tape(text);
            c.due("guess '" + text + "'", c.x.guess(0), -3);
        }
        for (String text : new String[] {"a", "z", "az", Check.times("z", 24)}) {
            c.tape(text);
            c.gives("sounds of " + text, c.x.sounds(0), text);
            c.tape(text);
            c.due("analyse " + text, c.x.analyse(0), 0);
            c.tape(text);
            c.due("guess " + text, c.x.guess(0), 0);
        }
    }

    // sounds: "how many letters; -1 if it lacks"
    private static void soundsThatLack() {
        Check c = new Check("sounds that lack");
        c.done("tongue t; sound 'ab' > 'abc'; sound 'x' > '';", 3);
        sounds(c, 0, Check.times("z", 21) + "ab", Check.times("z", 21) + "abc");
        lacks(c, 0, Check.times("z", 22) + "ab");
        sounds(c, 0, "abx", "abc");
        lacks(c, 0, "x");
        lacks(c, 0, "xxx");
        c.done("tongue u;", 1);
        sounds(c, 1, "x", "x");
        sounds(c, 1, Check.times("x", 24), Check.times("x", 24));
        c.refuses("no such tongue", () -> c.x.sounds(2));
        c.refuses("no such tongue", () -> c.x.sounds(-1));
    }

    // analysis: "-1 if there is none. IllegalArgumentException: what below 0 or above 11."
    private static void whatOfAnAnalysis() {
        Check c = Check.full("what of an analysis");
        for (int what = -2; what < 14; what++) {
            int w = what;
            if (what < 0 || what > 11) {
                c.refuses("analysis " + what, () -> c.x.analysis(0, w));
            } else {
                c.due("no analysis yet", c.x.analysis(0, what), -1);
            }
        }
        c.tape("cats");
        c.due("analyse", c.x.analyse(0), 1);
        int[] due = {1, 1, 1, 1, 2, 0, 0, 0, 0, 0, 0, 0};
        for (int what = 0; what < 12; what++) {
            c.due("what " + what, c.x.analysis(0, what), due[what]);
            c.due("what " + what + " of the next", c.x.analysis(1, what), -1);
            c.due("what " + what + " of the one ahead", c.x.analysis(-1, what), -1);
        }
        c.refuses("what 12", () -> c.x.analysis(0, 12));
        c.refuses("what -1", () -> c.x.analysis(0, -1));
        c.refuses("what 12 of none", () -> c.x.analysis(1, 12));
        c.refuses("no such tongue", () -> c.x.analyse(2));
        c.due("it is still there", c.x.analysis(0, 0), 1);
        c.tape("zebra");
        c.due("analyse of none", c.x.analyse(0), 0);
        c.due("it is not there any more", c.x.analysis(0, 0), -1);
    }

    private static void analysesOfAnotherTongue() {
        Check c = Check.full("another tongue");
        c.tape("corran");
        c.due("analyse in es", c.x.analyse(1), 1);
        int[] due = {4, 1, 6, 0, 2, 0};
        for (int what = 0; what < 6; what++) {
            c.due("what " + what, c.x.analysis(0, what), due[what]);
        }
        c.tape("corran");
        c.due("analyse in en", c.x.analyse(0), 0);
        c.tape("dogs");
        c.due("analyse in en", c.x.analyse(0), 1);
        c.due("word", c.x.analysis(0, 0), 0);
        c.tape("corran");
        c.due("guess in es", c.x.guess(1), 1);
        c.due("pattern", c.x.guessed(0, 0), 1);
        c.gives("cell in es", c.x.cell(1, 4, 1), "corran");
    }

    // guessed: "-1 if there is none. IllegalArgumentException for others."
    private static void whatOfAGuess() {
        Check c = Check.full("what of a guess");
        for (int what = -2; what < 6; what++) {
            int w = what;
            if (what < 0 || what > 3) {
                c.refuses("guessed " + what, () -> c.x.guessed(0, w));
            } else {
                c.due("no guess yet", c.x.guessed(0, what), -1);
            }
        }
        c.tape("bogs");
        c.due("guess", c.x.guess(0), 1);
        int[] due = {0, 1, 1, 3};
        for (int what = 0; what < 4; what++) {
            c.due("what " + what, c.x.guessed(0, what), due[what]);
            c.due("what " + what + " of the next", c.x.guessed(1, what), -1);
            c.due("what " + what + " of the one ahead", c.x.guessed(-1, what), -1);
        }
        c.refuses("what 4", () -> c.x.guessed(0, 4));
        c.refuses("what -1", () -> c.x.guessed(0, -1));
        c.refuses("no such tongue", () -> c.x.guess(2));
        c.due("it is still there", c.x.guessed(0, 3), 3);
        c.tape("zzz");
        c.due("guess of none", c.x.guess(0), 0);
        c.due("it is not there any more", c.x.guessed(0, 0), -1);
    }

    // cell: "IllegalArgumentException: no such WORD or CELL, too."
    private static void noSuchWordOrCell() {
        Check c = Check.full("no such word or cell");
        c.gives("the first", c.x.cell(0, 0, 0), "dog");
        c.gives("the last", c.x.cell(0, 7, 1), "see");
        c.gives("the last of its pattern", c.x.cell(0, 5, 0), "every");
        c.refuses("word 8", () -> c.x.cell(0, 8, 0));
        c.refuses("word -1", () -> c.x.cell(0, -1, 0));
        c.refuses("cell 2", () -> c.x.cell(0, 0, 2));
        c.refuses("cell -1", () -> c.x.cell(0, 0, -1));
        c.refuses("cell 1 of a pattern of one", () -> c.x.cell(0, 5, 1));
        c.refuses("tongue 2", () -> c.x.cell(2, 0, 0));
        c.refuses("tongue -1", () -> c.x.cell(-1, 0, 0));
        c.refuses("word 6 of es", () -> c.x.cell(1, 6, 0));
        c.dueText("OUT is as it was", c.out(), "every");
        c.done("tongue new;", 1);
        c.refuses("a tongue without words", () -> c.x.cell(2, 0, 0));
    }
}
