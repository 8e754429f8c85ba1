/** The edges that Terms 2 and promises 4, 5, 7 and 31 name: each method is for the words of the document above it. */
public final class StatementEdgesTest {
    public static void main(String[] args) {
        mayLackOrComeAnyNumberOfTimes();
        theFirstWrongToken();
        sixThenTwo();
        eightTongues();
        withoutTongue();
        thirtyTwoKinds();
        fourArguments();
        ninetySixFuns();
        prices();
        twoToSixValues();
        eightFeatures();
        sixteenClasses();
        soundRules();
        threeOnEachSide();
        twentyFourSounds();
        patternsOfOthers();
        cellsAndParts();
        twentyFourCells();
        twentyFourPatterns();
        words();
        sixtyFourWords();
        fourLins();
        sixItems();
        sixSaid();
        linOfOneItem();
        argumentsThatAreNoItems();
        meanings();
        fortyDeep();
        fortyNodes();
        eightThings();
        sixtyFourFacts();
        noneIsDone();
        eightTonguesComeBack();
        notEnded();
        theLatestModule();
        numberOfNames();
        countOfAll();
        everythingFull();
        Check.finish();
    }

    private static String row(String begin, int from, int to, String end) {
        StringBuilder all = new StringBuilder();
        for (int i = from; i < to; i++) {
            all.append(begin).append(i).append(end);
        }
        return all.toString();
    }

    // "[ ] may lack, { } any number of times (in words, not TOKENS; those in quotes are TOKENS)"
    private static void mayLackOrComeAnyNumberOfTimes() {
        Check c = new Check("may lack, any number of times");
        c.done("kind n; fun a : > n; fun b : n > n; fun d : n n n n > n cost 1; tongue t; feature f = x y; letters l = 'a';", 7);
        c.done("sound 'a' > 'b'; sound 'a' > 'b' / _; sound l > '' / # _; sound l > '' / _ #; sound l > '' / # l '' _ '' l #;", 5);
        c.done("pattern p { = 1 }; pattern q of p { x = 2 }; pattern r { = 1, x = -, y = 1 + 'a' + 2 + 3 };", 3);
        c.done("word a p 'a'; word a p 'a' 'b'; word a p 'a' 'b' 'c'; word a p 'a' has x; word a p 'a' 'b' has y cost 2; word a p 'a' cost 2;", 6);
        c.done("lin b = 1 'a'; lin b = 'a' 1[x]; lin b = 1 'c', give x; lin b = 'd' 1, agree 1 1 f, give 1 f cost 4; lin d = 1 2 3 4 cost 1;", 5);
        c.done("mean a = x; mean b = x(1)(1,1)(1); mean d = \\x.(x); thing rex; fact p rex; fact p rex rex;", 6);
        c.wrongAt("fun e : ^[n] > n;", 1);
        c.wrongAt("fun e : n > n ^[cost 1];", 1);
        c.wrongAt("fun e : ^{n} > n;", 1);
        c.wrongAt("sound 'a' > 'b' ^[/ _];", 1);
        c.wrongAt("pattern s ^[of p] { = 1 };", 1);
        c.wrongAt("pattern s ^= 1;", 1);
        c.wrongAt("pattern s { ^{x} = 1 };", 1);
        c.wrongAt("lin b = 1 ^(x) 'a';", 1);
        c.wrongAt("lin b = 1 ^{x} 'a';", 1);
    }

    // "The first TOKEN that can't stand there (1), or is told to be wrong as soon as it is come to (3, 4, 5), is wrong"
    private static void theFirstWrongToken() {
        Check c = new Check("the first wrong token");
        c.done("kind n; fun a : > n; tongue t; pattern p { = 1 };", 4);
        c.wrongAt("kind ^n n n;", 4);
        c.wrongAt("kind ^n; kind ?", 4);
        c.wrongAt("kind m; kind ^m; kind 5;", 4);
        c.wrongAt("fun ^a ? : > n;", 4);
        c.wrongAt("fun b : ^zz zz > zz;", 5);
        c.wrongAt("fun b : n > ^zz cost 99999;", 5);
        c.wrongAt("fun b : n > n cost ^99999", 5);
        c.wrongAt("fun b ^; n > n;", 1);
        c.wrongAt("word ^zz zz 5;", 5);
        c.wrongAt("word a ^zz 5;", 5);
        c.wrongAt("word a p ^5 has zz;", 1);
        c.wrongAt("pattern ^p of zz;", 4);
        c.wrongAt("pattern q of ^zz ?", 5);
        c.wrongAt("mean ^zz ?", 5);
        c.wrongAt("thing rex; thing tom; fact p ^ann ann;", 5);
        c.wrongAt("lin ^a ?", 5);
        c.wrongAt("letters l = 'a'; letters ^l ?", 4);
        c.wrongAt("feature f = x y; feature ^f ?", 4);
        c.wrongAt("sound ^'' ?", 5);
        c.due("none of them was done", c.x.count(0, 1) + c.x.count(0, 3) + c.x.count(0, 8), 1);
    }

    // "then 6, then 2 are looked at, 2 at the first TOKEN of the STATEMENT"
    private static void sixThenTwo() {
        Check c = new Check("six, then two");
        c.done("kind n; kind s; fun f : n n > s; fun g : n > n; tongue t;", 5);
        c.done("lin f = 1 2; lin f = 2 1; lin f = 1 'a' 2; lin f = 2 'a' 1; lin g = 1 'a'; lin g = 'a' 1; lin g = 'b' 1; lin g = 1 'b';", 8);
        c.wrongAt("lin f = 1 2 ^?", 1);
        c.wrongAt("lin f = 1 2 cost ^10001;", 5);
        c.wrongAt("lin ^f = 'a' 1;", 6);
        c.wrongAt("lin g = ^1;", 6);
        c.wrongAt("kind m;   ^lin f = 1 2 ;", 2);
        // A STATEMENT that is wrong by 2 is wrong ahead of those behind it.
        c.wrongAt("^lin f = 1 2; kind n;", 2);
        c.wrongAt("kind ^n; lin f = 1 2;", 4);
    }

    // "tongue NAME: that TONGUE is meant from now on (made if it is new; at most 8: 2)"
    private static void eightTongues() {
        Check c = new Check("eight tongues");
        c.done("kind n;" + row("tongue t", 0, 8, ";"), 9);
        c.wrongAt("kind m; ^tongue t8;", 2);
        c.wrongAt("^tongue t8 ;", 2);
        c.wrongAt("tongue t8 ^?", 1);
        c.wrongAt("tongue ^8;", 1);
        c.wrongAt("tongue t0 ^t1;", 1);
        c.due("tongues", c.x.count(0, 0), 8);
        // The latest one is still meant.
        c.done("feature f = a b;", 1);
        c.due("features of t7", c.x.count(7, 8), 1);
        for (int i = 0; i < 8; i++) {
            c.done("tongue t" + i + "; letters l" + i + " = 'a';", 2);
            c.due("classes", c.x.count(i, 10), 1);
        }
        c.due("tongues", c.x.count(0, 0), 8);
        c.refuses("a ninth", () -> c.x.count(8, 8));
        c.refuses("a ninth", () -> c.x.sounds(8));
        c.refuses("one below", () -> c.x.sounds(-1));
        c.tape("t7");
        c.due("number", c.x.number(0, 0), 7);
        c.tape("t8");
        c.due("number", c.x.number(0, 0), -1);
    }

    // "What is of a TONGUE (feature to lin), without one: RULE 3 at its first TOKEN."
    private static void withoutTongue() {
        Check c = new Check("without a tongue");
        String[] own = {"feature", "letters", "sound", "pattern", "word", "lin"};
        for (String word : own) {
            c.wrongAt("^" + word + ";", 3);
            c.wrongAt("kind n;  ^" + word, 3);
            c.wrongAt("^" + word + " ?", 3);
            c.wrongAt("tongue t; " + word + " ^?", 1);
            // The module was wrong: the TONGUE is not meant.
            c.wrongAt("^" + word, 3);
        }
        c.wrongAt("^features", 1);
        c.wrongAt("^feature; kind ?", 3);
        c.done("kind n; fun f : n > n; fun g : > n; mean f = x; thing a; fact p a;", 6);
        c.wrongAt("^lin f = 1 'a'; tongue t;", 3);
        c.done("tongue t; pattern p { = 1 }; word g p 'a'; lin f = 1 'a';", 4);
    }

    // "kind NAME: a KIND (32 at most: 2; there is one: 4)"
    private static void thirtyTwoKinds() {
        Check c = new Check("32 kinds");
        c.done(row("kind k", 0, 31, ";"), 31);
        c.wrongAt("kind x; ^kind y;", 2);
        c.due("none of the two came", c.x.count(0, 1), 31);
        c.done("kind k31;", 1);
        c.wrongAt("^kind k32;", 2);
        c.wrongAt("kind ^k31;", 4);
        c.wrongAt("kind ^k0;", 4);
        c.due("kinds", c.x.count(0, 1), 32);
        // The last one is of use.
        c.done("fun f : k31 > k31; fun g : > k31; tongue t; pattern p { = 1 }; word g p 'a'; lin f = 1 'b'; lin f = 'c' 1;", 7);
        c.tape("c a b");
        c.due("parse as the last kind", c.x.parse(0, 31), 1);
        c.due("trees", c.x.trees(), 2);
        c.refuses("parse as one more", () -> c.x.parse(0, 32));
        c.tape("c a b");
        c.due("parse as the first", c.x.parse(0, 0), 0);
    }

    // "a FUN of 0 to 4 arguments (no such KIND, a fifth: 5 at it ..; there is one: 4)"
    private static void fourArguments() {
        Check c = new Check("four arguments");
        c.done("kind n; kind s; fun f0 : > n; fun f1 : n > s; fun f2 : n s > n; fun f3 : s s s > n; fun f4 : n s n s > s;", 7);
        c.wrongAt("fun f5 : n n n n ^n > n;", 5);
        c.wrongAt("fun f5 : n n n n ^n n n;", 5);
        c.wrongAt("fun f5 : n n n n ^cost 5;", 5);
        c.wrongAt("fun f5 : n n n n ^5 > n;", 1);
        for (int i = 0; i <= 4; i++) {
            c.wrongAt("fun f5 : " + Check.times("n ", i) + "^x > n;", 5);
            c.wrongAt("fun f5 : " + Check.times("n ", i) + "> ^x;", 5);
            c.wrongAt("fun ^f" + i + " : > n;", 4);
        }
        c.tape("f4(f0,f1(f0),f0,f1(f0))");
        c.due("tree", c.x.tree(0), 7);
        c.tape("f4(f0,f1(f0),f1(f0),f0)");
        c.due("the third one is an n", c.x.tree(0), -14);
        c.tape("f3(f1(f0),f1(f0),f1(f0))");
        c.due("tree", c.x.tree(0), 7);
    }

    // "96 at most: 2; there is one: 4"
    private static void ninetySixFuns() {
        Check c = new Check("96 funs");
        c.done("kind n;" + row("fun f", 0, 48, ":>n;"), 49);
        c.done(row("fun f", 48, 95, ":>n;"), 47);
        c.wrongAt("fun x : > n; ^fun y : > n cost 3;", 2);
        c.done("fun f95 : > n cost 9;", 1);
        c.wrongAt("^fun f96 : > n;", 2);
        c.wrongAt("fun ^f95 : > n;", 4);
        c.wrongAt("fun ^f0 : > n;", 4);
        c.due("funs", c.x.count(0, 2), 96);
        c.wrongAt("tongue t; mean f95 = y; ^?", 1);
        c.done("tongue t; pattern p { = 1 }; word f95 p 'a'; mean f95 = x;", 4);
        c.tape("a");
        c.due("parse", c.x.parse(0, 0), 1);
        c.due("price", c.x.price(0), 9);
        c.due("bar the last", c.x.bar(95, true), 0);
        c.refuses("bar one more", () -> c.x.bar(96, true));
        c.due("not any more", c.x.bar(95, false), 1);
        c.due("bar the last again", c.x.bar(95, true), 0);
        c.tape("a");
        c.due("parse", c.x.parse(0, 0), 1);
        c.due("a parse bars none", c.x.trees(), 1);
        // A module that is wrong takes no meaning of the last one, and gives it none.
        c.wrongAt("mean f94 = x; ^?", 1);
        c.tape("f95");
        c.x.tree(0);
        c.gives("mean", c.x.mean(0), "x");
        c.tape("f94");
        c.x.tree(0);
        c.givesNone("no mean", c.x.mean(0), -2);
    }

    // "Its price is the NUMBER, or 0 (above 10000: 5, so of all)."
    private static void prices() {
        Check c = new Check("prices");
        c.done("kind n; kind s; fun a : > n cost 10000; fun b : > n; fun f : n > s cost 10000; fun g : n > s; tongue t; pattern p { = 1 };", 8);
        c.done("word a p 'a' cost 10000; word b p 'b'; lin f = 1 'f' cost 10000; lin g = 1 'g'; lin g = 'g' 1 cost 1;", 5);
        String[] sentences = {"a f", "b f", "a g", "b g", "g b"};
        int[] due = {40000, 20000, 20000, 0, 1};
        for (int i = 0; i < due.length; i++) {
            c.tape(sentences[i]);
            c.due("parse " + sentences[i], c.x.parse(0, 1), 1);
            c.due("price of " + sentences[i], c.x.price(0), due[i]);
        }
        c.wrongAt("fun h : > n cost ^10001;", 5);
        c.wrongAt("word a p 'a' cost ^10001;", 5);
        c.wrongAt("lin f = 1 cost ^10001;", 5);
        c.wrongAt("fun h : > n cost ^;", 1);
        c.wrongAt("word a p 'a' cost ^;", 1);
        c.wrongAt("lin f = 1 cost ^;", 1);
        c.wrongAt("word a p 'a' cost ^'b';", 1);
        c.wrongAt("lin f = 1 cost 3 ^cost 3;", 1);
        c.done("fun h : > n cost 0; word a p 'x' cost 0; lin f = 'x' 1 cost 0;", 3);
    }

    // "two to six VALUES (a seventh, or just one: 5 at it), NAMES that are no VALUES there yet (4)"
    private static void twoToSixValues() {
        Check c = new Check("two to six values");
        c.done("tongue t; feature f = a b;", 2);
        c.wrongAt("feature g = ^c;", 5);
        c.wrongAt("feature g = ^c  ;", 5);
        c.wrongAt("feature g = ^;", 1);
        c.wrongAt("feature g ^kind zz;", 1);
        c.wrongAt("feature ^= kind zz;", 1);
        c.wrongAt("feature g = c ^, d;", 1);
        c.wrongAt("feature g = c d^", 1);
        c.wrongAt("feature g = c d e h i j ^k;", 5);
        c.wrongAt("feature g = c d e h i j ^k l;", 5);
        c.wrongAt("feature g = c d e h i j ^5;", 1);
        for (int at = 0; at < 6; at++) {
            String[] names = {"c", "d", "e", "h", "i", "j"};
            names[at] = "^a";
            c.wrongAt("feature g = " + String.join(" ", names) + ";", 4);
            names[at] = "^b";
            c.wrongAt("feature g = " + String.join(" ", names) + ";", 4);
            names[at] = "^c";
            if (at > 0) {
                c.wrongAt("feature g = " + String.join(" ", names) + ";", 4);
            }
        }
        c.done("feature g = c d e h i j; feature k = f g;", 2);
        c.due("values", c.x.count(0, 9), 10);
        c.wrongAt("feature l = m ^j;", 4);
        c.wrongAt("feature l = m ^g;", 4);
        c.done("tongue u; feature f = a b c d e g;", 2);
        c.due("values", c.x.count(1, 9), 6);
    }

    // "8 FEATURES at most (2; there is one: 4)"
    private static void eightFeatures() {
        Check c = new Check("eight features");
        c.done("kind n; fun x : > n; tongue t;", 3);
        for (int i = 0; i < 7; i++) {
            c.done("feature f" + i + " = " + row("v" + i, 1, 7, " ") + ";", 1);
        }
        c.wrongAt("feature ^f6 = a b;", 4);
        c.wrongAt("feature ^f0 = a b;", 4);
        c.wrongAt("feature f7 = a b; ^feature f8 = c d;", 2);
        c.done("feature f7 = " + row("v7", 1, 7, " ") + ";", 1);
        c.wrongAt("^feature f8 = a b;", 2);
        c.wrongAt("feature f8 = ^v76 b;", 4);
        c.wrongAt("feature f8 = ^a;", 5);
        c.due("features", c.x.count(0, 8), 8);
        c.due("values", c.x.count(0, 9), 48);
        c.tape("f7");
        c.due("number of the last feature", c.x.number(0, 3), 7);
        c.tape("v76");
        c.due("number of the last value", c.x.number(0, 4), 47);
        // Every VALUE is its own, from the first FEATURE to the last one.
        c.done("pattern p { v01 v12 v23 v34 v45 v56 v61 v76 = 1, v06 v16 v26 v36 v46 v56 v66 v76 = 2, = 3 };", 1);
        c.done("word x p 'a' 'b' 'c' has v02 v11 v22 v31 v42 v51 v62 v71;", 1);
        int[][] due = {{1, 2, 3, 4, 5, 6, 1, 6}, {6, 6, 6, 6, 6, 6, 6, 6}, {2, 1, 2, 1, 2, 1, 2, 1}};
        for (int i = 0; i < 3; i++) {
            c.tape("" + (char) ('a' + i));
            c.due("analyse", c.x.analyse(0), 1);
            for (int f = 0; f < 8; f++) {
                c.due("value of feature " + f, c.x.analysis(0, 4 + f), due[i][f]);
            }
        }
        c.done("tongue u; feature f8 = a b;", 2);
    }

    // "letters NAME = LETTERS: a CLASS of letters (16 at most: 2; there is one: 4)"
    private static void sixteenClasses() {
        Check c = new Check("sixteen classes");
        c.done("tongue t;" + row("letters c", 0, 15, " = 'a';"), 16);
        c.wrongAt("letters x = 'a'; ^letters y = 'b';", 2);
        c.done("letters c15 = 'xyz';", 1);
        c.wrongAt("^letters c16 = 'a';", 2);
        c.wrongAt("letters ^c15 = 'a';", 4);
        c.wrongAt("letters ^c0 = 'a';", 4);
        c.due("classes", c.x.count(0, 10), 16);
        c.done("sound c15 > 'b' / c0 _;", 1);
        c.tape("xayaaz");
        c.gives("sounds", c.x.sounds(0), "xabaab");
        c.done("tongue u; letters c0 = 'a';", 2);
    }

    // "LHS is LETTERS (one to three: else 5) or a CLASS (not there: 5)"
    private static void soundRules() {
        Check c = new Check("sound rules");
        c.done("tongue t; letters l = 'a';", 2);
        c.done("sound 'a' > ''; sound 'ab' > 'abcdefghijkl'; sound 'abc' > 'x'; sound l > 'x';", 4);
        c.wrongAt("sound ^'' > 'x';", 5);
        c.wrongAt("sound ^'abcd' > 'x';", 5);
        c.wrongAt("sound ^'abcdefghijkl' > 'x';", 5);
        c.wrongAt("sound ^'abcdefghijklm' > 'x';", 1);
        c.wrongAt("sound ^m > 'x';", 5);
        c.wrongAt("sound ^;", 1);
        c.wrongAt("sound ^# > 'x';", 1);
        c.wrongAt("sound ^1 > 'x';", 1);
        c.wrongAt("sound 'a' > ^#;", 1);
        c.wrongAt("sound 'a' > ^l;", 1);
        c.wrongAt("sound 'a' > 'x' /^;", 1);
        c.wrongAt("sound 'a' > 'x' / ^/;", 1);
        // A CLASS of another TONGUE is none.
        c.wrongAt("tongue u; sound ^l > 'x';", 5);
        c.wrongAt("tongue u; sound 'x' > 'x' / _ ^l;", 5);
    }

    // "C is LETTERS, a CLASS, or # (the border of the word); at most three on each side (5)"
    private static void threeOnEachSide() {
        Check c = new Check("three on each side");
        c.done("tongue t; letters l = 'a'; sound 'x' > 'y' / # 'b' l _ l 'c' #; sound 'x' > 'z' / 'b' 'c' 'd' _ 'e' 'f' 'g';", 4);
        String[] four = {"^#", "^l", "^'a'", "^''", "^m"};
        for (String last : four) {
            c.wrongAt("sound 'a' > 'x' / # # # " + last + " _;", 5);
            c.wrongAt("sound 'a' > 'x' / _ # # # " + last + ";", 5);
            c.wrongAt("sound 'a' > 'x' / l l l _ l l l " + last + ";", 5);
        }
        c.wrongAt("sound 'a' > 'x' / ^m _;", 5);
        c.wrongAt("sound 'a' > 'x' / l l ^m _;", 5);
        c.wrongAt("sound 'a' > 'x' / _ l l ^m;", 5);
        c.wrongAt("sound 'a' > 'x' / l l l ^5 _;", 1);
        c.wrongAt("sound 'a' > 'x' / _ l l l ^5;", 1);
        c.wrongAt("sound 'a' > 'x' / _ ^_;", 1);
        String[] words = {"baxac", "bbaxac", "baxacc", "caxac", "bcxac", "baxcc", "bcdxefg", "bcdxefgh", "abcdxefg", "ccdxefg", "bbdxefg",
            "bccxefg", "bcdxffg", "bcdxeeg", "bcdxeff"};
        String[] due = {"bayac", "bbaxac", "baxacc", "caxac", "bcxac", "baxcc", "bcdzefg", "bcdzefgh", "abcdzefg", "ccdxefg", "bbdxefg",
            "bccxefg", "bcdxffg", "bcdxeeg", "bcdxeff"};
        for (int i = 0; i < words.length; i++) {
            c.tape(words[i]);
            c.gives("sounds of " + words[i], c.x.sounds(0), due[i]);
        }
    }

    // "a SOUND RULE (24 at most: 2)"
    private static void twentyFourSounds() {
        Check c = new Check("24 sounds");
        c.done("tongue t;" + Check.times("sound 'a' > 'b';", 23), 24);
        c.wrongAt("sound 'c' > 'd'; ^sound 'd' > 'e';", 2);
        c.done("sound 'b' > 'c';", 1);
        c.wrongAt("^sound 'c' > 'd';", 2);
        c.wrongAt("sound ^'' > 'd';", 5);
        c.due("sounds", c.x.count(0, 11), 24);
        c.tape("abcd");
        c.gives("all are done", c.x.sounds(0), "cccd");
        c.done("tongue u; sound 'a' > 'b';", 2);
    }

    // "It has the CELLS of the one it is of, in order; a CELL with the same VALUES (in any order) takes the place of one that is there,
    // others come behind"
    private static void patternsOfOthers() {
        Check c = new Check("patterns of others");
        c.done("kind n; fun x : > n; tongue t; feature f = a b; feature g = c d;", 5);
        c.done("pattern p { a c = 1 + 'p', = 1 + 'q', d = 1 + 'r', b c = 1 + 's' }; pattern other { = 1 + 'o', b = -, a = -, c = -, d = -, a d = - };", 2);
        c.done("pattern k of p { c a = 1 + 'k', b = 1 + 'l', a = -, c b = 1 + 'm', b = 1 + 'n' }; pattern m of k { = 1 };", 2);
        c.done("word x p 'w'; word x k 'w'; word x other 'w'; word x m 'w';", 4);
        cells(c, 0, "wp", "wq", "wr", "ws");
        cells(c, 1, "wk", "wq", "wr", "wm", "wn", null);
        cells(c, 2, "wo", null, null, null, null, null);
        cells(c, 3, "wk", "w", "wr", "wm", "wn", null);
        // VALUES of a CELL that took a place are the same as ever.
        c.tape("wk");
        c.due("analyse", c.x.analyse(0), 2);
        c.due("a", c.x.analysis(0, 4), 1);
        c.due("c", c.x.analysis(0, 5), 1);
        c.wrongAt("pattern ^p { = 1 };", 4);
        c.wrongAt("pattern z of ^z { = 1 };", 5);
        c.wrongAt("pattern z of ^zz { = 1 };", 5);
        c.wrongAt("pattern z of p ^;", 1);
        c.wrongAt("tongue u; pattern z of ^p { = 1 };", 5);
    }

    private static void cells(Check c, int word, String... forms) {
        for (int i = 0; i < forms.length; i++) {
            if (forms[i] == null) {
                c.givesNone("cell " + i + " of " + word, c.x.cell(0, word, i), -1);
            } else {
                c.gives("cell " + i + " of " + word, c.x.cell(0, word, i), forms[i]);
            }
        }
        c.refuses("no cell " + forms.length, () -> c.x.cell(0, word, forms.length));
        c.refuses("no cell -1", () -> c.x.cell(0, word, -1));
    }

    // "PART: 1, 2, 3 (a stem; other NUMBERS: 5) or LETTERS; VALUES that are none, or two of one FEATURE: 5"
    private static void cellsAndParts() {
        Check c = new Check("cells and parts");
        c.done("tongue t; feature f = a b; feature g = c d;", 3);
        c.done("pattern p { = 1 + 2 + 3 + '' + 'abcdefghijkl', a = 3, a c = 2, d b = 1 };", 1);
        for (String number : new String[] {"0", "4", "000000", "999999", "10"}) {
            c.wrongAt("pattern q { = ^" + number + " };", 5);
            c.wrongAt("pattern q { = 1 + ^" + number + " };", 5);
        }
        c.wrongAt("pattern q { = ^a };", 1);
        c.wrongAt("pattern q { = 1 + ^- };", 1);
        c.wrongAt("pattern q { = - ^- };", 1);
        c.wrongAt("pattern q { ^zz = 1 };", 5);
        c.wrongAt("pattern q { ^f = 1 };", 5);
        c.wrongAt("pattern q { a ^zz = 1 };", 5);
        c.wrongAt("pattern q { a ^a = 1 };", 5);
        c.wrongAt("pattern q { a ^b = 1 };", 5);
        c.wrongAt("pattern q { a c ^b = 1 };", 5);
        c.wrongAt("pattern q { a c ^d = 1 };", 5);
        c.wrongAt("pattern q { = 1, c ^d = 1 };", 5);
        c.wrongAt("pattern q { a ^5 = 1 };", 1);
        c.wrongAt("pattern q { = 1 ^= 1 };", 1);
        c.wrongAt("pattern q { a = 1 ^b = 1 };", 1);
        c.wrongAt("pattern q ^};", 1);
        c.wrongAt("pattern q { = 1 }^, ;", 1);
    }

    private static String cellsFrom(int from, int to) {
        StringBuilder all = new StringBuilder();
        for (int i = from; i < to; i++) {
            all.append(i == from ? "" : ",").append("a" + (i % 6 + 1) + " b" + (i / 6 + 1) + "=1");
        }
        return all.toString();
    }

    // "(24 at most: 2)", of the CELLS
    private static void twentyFourCells() {
        Check c = new Check("24 cells");
        c.done("kind n; fun x : > n; tongue t; feature f = a1 a2 a3 a4 a5 a6; feature g = b1 b2 b3 b4 b5 b6;", 5);
        c.done("pattern p {" + cellsFrom(0, 23) + "};", 1);
        c.done("pattern q of p { a6 b4 = 1 };", 1);
        c.wrongAt("^pattern r of q { a1 b5 = 1 };", 2);
        c.wrongAt("^pattern r of p { a6 b4 = 1, = 1 };", 2);
        c.wrongAt("^pattern r of p { = 1, a6 b4 = 1, a1 b1 = 1 };", 2);
        c.wrongAt("^pattern r {" + cellsFrom(0, 25) + "};", 2);
        c.wrongAt("pattern r of q { a1 b5 = 1, a1 ^a2 = 1 };", 5);
        c.wrongAt("pattern r of q { a1 b5 = 1, = ^4 };", 5);
        c.wrongAt("pattern r of q { a1 b5 = 1 } ^}", 1);
        // What takes a place needs none.
        c.done("pattern r of q { b1 a1 = 2, a6 b4 = 2, b4 a6 = 3, a1 b1 = - };", 1);
        c.done("pattern s {" + cellsFrom(0, 24) + "}; word x s 'a'; word x r 'a' 'b' 'c';", 3);
        c.gives("the last cell", c.x.cell(0, 0, 23), "a");
        c.refuses("one more", () -> c.x.cell(0, 0, 24));
        c.gives("the last cell", c.x.cell(0, 1, 23), "c");
        c.givesNone("the first cell", c.x.cell(0, 1, 0), -1);
        c.due("patterns", c.x.count(0, 12), 4);
    }

    // "pattern NAME ..: there is one: 4; the one it is of is not there: 5; 24 at most: 2"
    private static void twentyFourPatterns() {
        Check c = new Check("24 patterns");
        c.done("kind n; fun x : > n; tongue t;" + row("pattern p", 0, 23, "{=1};"), 26);
        c.wrongAt("pattern y { = 1 }; ^pattern z { = 1 };", 2);
        c.done("pattern p23 { = 1 + 'a' };", 1);
        c.wrongAt("^pattern p24 { = 1 };", 2);
        c.wrongAt("^pattern p24 of p0 { = 1 };", 2);
        c.wrongAt("pattern ^p23 { = 1 };", 4);
        c.wrongAt("pattern ^p0 { = 1 };", 4);
        c.wrongAt("pattern p24 of ^p24 { = 1 };", 5);
        c.due("patterns", c.x.count(0, 12), 24);
        c.done("word x p23 'w';", 1);
        c.gives("a word of the last", c.x.cell(0, 0, 0), "wa");
        c.tape("p23");
        c.due("its number", c.x.number(0, 5), 23);
        c.done("tongue u; pattern p0 { = 1 };", 2);
    }

    // "a WORD of a FUN without arguments (none such: 5; no such PATTERN: 5; VALUES as in CELLS: 5)"
    private static void words() {
        Check c = new Check("words");
        c.done("kind n; fun x : > n; fun y : n > n; tongue t; feature f = a b; feature g = c d; pattern p { = 1 };", 7);
        c.wrongAt("word ^y p 'a';", 5);
        c.wrongAt("word ^n p 'a';", 5);
        c.wrongAt("word ^p p 'a';", 5);
        c.wrongAt("word x ^x 'a';", 5);
        c.wrongAt("word x ^has 'a';", 5);
        c.wrongAt("word x p 'a' has ^zz;", 5);
        c.wrongAt("word x p 'a' has ^f;", 5);
        c.wrongAt("word x p 'a' has a ^a;", 5);
        c.wrongAt("word x p 'a' has a ^b;", 5);
        c.wrongAt("word x p 'a' has a c ^d;", 5);
        c.wrongAt("word x p 'a' has a c ^zz;", 5);
        c.wrongAt("word x p 'a' has ^cost 1;", 5);
        c.wrongAt("word x p 'a' has a ^5;", 1);
        c.wrongAt("word x p 'a' has ^'a';", 1);
        c.wrongAt("word x p 'a' 'b' 'c' ^'d';", 1);
        c.wrongAt("word x p ^1;", 1);
        c.wrongAt("word ^5 p 'a';", 1);
        c.wrongAt("tongue u; word x ^p 'a';", 5);
        // Several for one FUN may be.
        c.done("word x p 'a' has a; word x p 'a' has a; word x p 'a' has d b; word x p '';", 4);
        c.tape("a");
        c.due("analyse", c.x.analyse(0), 3);
    }

    // "64 at most (2). Several for one FUN may be."
    private static void sixtyFourWords() {
        Check c = new Check("64 words");
        c.done("kind n; fun x : > n; fun y : > n; tongue t; pattern p { = 1 };" + Check.times("word x p 'a';", 60), 65);
        c.done(Check.times("word x p 'a';", 3), 3);
        c.wrongAt("word x p 'b'; ^word x p 'c';", 2);
        c.done("word y p 'z' cost 7;", 1);
        c.wrongAt("word x p 'b' has^", 1);
        c.wrongAt("^word x p 'b';", 2);
        c.due("words", c.x.count(0, 13), 64);
        c.gives("the last word", c.x.cell(0, 63, 0), "z");
        c.refuses("one more", () -> c.x.cell(0, 64, 0));
        c.tape("a");
        c.due("analyse", c.x.analyse(0), 63);
        c.tape("z");
        c.due("analyse", c.x.analyse(0), 1);
        c.due("word", c.x.analysis(0, 0), 63);
        c.due("fun", c.x.analysis(0, 2), 1);
        c.due("price", c.x.analysis(0, 3), 7);
        c.tape("z");
        c.due("parse", c.x.parse(0, 0), 1);
        c.due("price", c.x.price(0), 7);
        c.tape("b");
        c.due("analyse", c.x.analyse(0), 0);
        c.done("tongue u; pattern p { = 1 }; word x p 'a';", 3);
    }

    // "a LIN of a FUN with arguments (none such: 5); at most 4 of one FUN (2)"
    private static void fourLins() {
        Check c = new Check("four lins");
        c.done("kind n; kind s; fun w : > n; fun f : n > s; fun g : n > s; tongue t; lin f = 1; lin f = 1; lin f = 1;", 9);
        c.wrongAt("lin f = 1 'a'; ^lin f = 1 'b';", 2);
        c.done("lin f = 1;", 1);
        c.wrongAt("^lin f = 1;", 2);
        c.done("lin g = 1; lin g = 1; lin g = 1; lin g = 1;", 4);
        c.wrongAt("^lin g = 1;", 2);
        c.wrongAt("^lin f = 1;", 2);
        c.wrongAt("lin ^w = 1;", 5);
        c.wrongAt("lin ^n = 1;", 5);
        c.wrongAt("lin ^zz = 1;", 5);
        c.wrongAt("lin ^1 = 1;", 1);
        c.due("lins", c.x.count(0, 14), 8);
        c.done("tongue u; lin f = 1; lin f = 1; lin f = 1; lin f = 1;", 5);
        c.wrongAt("^lin f = 1;", 2);
        c.due("lins of u", c.x.count(1, 14), 4);
    }

    // "six ITEMS (5). ITEM: LETTERS (one at least: 5), or the NUMBER of an argument (none such, or a second time: 5)"
    private static void sixItems() {
        Check c = new Check("six items");
        c.done("kind n; kind s; fun x : > n; fun f : n > s; fun g : n n n n > s; tongue t; feature q = a b; feature r = c d; pattern p { = 1 };", 9);
        c.done("word x p 'x'; lin f = 'a' 'b' 'c' 'd' 'e' 1; lin g = 'a' 1 2 3 4 'b'; lin g = 1[a] 2[b c] 3[c a] 4[d];", 4);
        c.wrongAt("lin f = 'a' 'b' 'c' 'd' 'e' 1 ^'f';", 5);
        c.wrongAt("lin f = 'a' 'b' 'c' 'd' 'e' 1 ^1;", 5);
        c.wrongAt("lin f = 'a' 'b' 'c' 'd' 'e' 1 ^'';", 5);
        c.wrongAt("lin g = 'a' 1 2 3 4 'b' ^5;", 5);
        c.wrongAt("lin f = 'a' 'b' 'c' 'd' 'e' 1 ^a;", 1);
        c.wrongAt("lin f = ^'' 1;", 5);
        c.wrongAt("lin f = 1 ^'';", 5);
        c.wrongAt("lin f = ^0;", 5);
        c.wrongAt("lin f = ^2;", 5);
        c.wrongAt("lin g = 1 2 3 4 ^5;", 5);
        c.wrongAt("lin g = 1 2 3 ^1;", 5);
        c.wrongAt("lin g = 1 2 3 ^3;", 5);
        c.wrongAt("lin f = 1 'a' ^1;", 5);
        c.wrongAt("lin f = 1[a] ^1;", 5);
        c.wrongAt("lin f = ^999999;", 5);
        c.wrongAt("lin f = 1[^zz];", 5);
        c.wrongAt("lin f = 1[a ^a];", 5);
        c.wrongAt("lin f = 1[a ^b];", 5);
        c.wrongAt("lin f = 1[a c ^d];", 5);
        c.wrongAt("lin f = 1[^];", 1);
        c.wrongAt("lin f = 1[a^, c];", 1);
        c.wrongAt("lin f = 1[a] ^[c];", 1);
        c.wrongAt("lin f = 'a'^[a] 1;", 1);
        c.wrongAt("lin f = ^, give a;", 1);
        c.tape("a b c d e x");
        c.due("a lin of six", c.x.parse(0, 1), 1);
        c.tape("a x x x x b");
        c.due("a lin of six", c.x.parse(0, 1), 1);
        c.tape("a b c d e");
        c.due("five words", c.x.parse(0, 1), 0);
    }

    // "SAID: .. (arguments that are no ITEMS, no such FEATURE, no such VALUE: 5; six at most: 5)"
    private static void sixSaid() {
        Check c = new Check("six said");
        c.done("kind n; kind s; fun x : > n; fun f : n n n n > s; fun g : n n > s; tongue t; feature q = a b; feature r = c d; pattern p { = 1 };", 9);
        String six = ", agree 1 2 q, agree 1 3 q, agree 1 4 q, agree 1 2 r, agree 1 3 r, agree 1 4 r";
        c.done("lin f = 1 2 3 4" + six + "; lin g = 1 2, give a, give b, give 1 q, give 2 q, give c, give d cost 3;", 2);
        c.wrongAt("lin f = 1 2 3 4" + six + ", ^agree 1 2 q;", 5);
        c.wrongAt("lin f = 1 2 3 4" + six + ", ^give a;", 5);
        c.wrongAt("lin f = 1 2 3 4" + six + ", ^gave a;", 1);
        c.wrongAt("lin f = 1 2 3 4" + six + ", ^;", 1);
        c.wrongAt("lin g = 1 2, agree ^0 1 q;", 5);
        c.wrongAt("lin g = 1 2, agree ^3 1 q;", 5);
        c.wrongAt("lin g = 1 2, agree ^5 1 q;", 5);
        c.wrongAt("lin g = 1 2, agree ^999999 1 q;", 5);
        c.wrongAt("lin g = 1 2, agree 1 ^0 q;", 5);
        c.wrongAt("lin g = 1 2, agree 1 ^3 q;", 5);
        c.wrongAt("lin g = 1 2, agree 1 ^5 q;", 5);
        c.wrongAt("lin g = 1 'a', agree ^2 1 q;", 5);
        c.wrongAt("lin g = 1 'a', give ^2 q;", 5);
        c.wrongAt("lin g = 1 2, agree 1 2 ^a;", 5);
        c.wrongAt("lin g = 1 2, agree 1 2 ^zz;", 5);
        c.wrongAt("lin g = 1 2, give ^0 q;", 5);
        c.wrongAt("lin g = 1 2, give ^5 q;", 5);
        c.wrongAt("lin g = 1 2, give 1 ^a;", 5);
        c.wrongAt("lin g = 1 2, give 1 ^zz;", 5);
        c.wrongAt("lin g = 1 2, give ^q;", 5);
        c.wrongAt("lin g = 1 2, give ^zz;", 5);
        c.wrongAt("lin g = 1 2, give 1 ^;", 1);
        c.wrongAt("lin g = 1 2, agree 1 ^q;", 1);
        // The sixth is as good as the first.
        c.done("fun y : > n; word x p 'o'; word x p 'c' has c; word x p 'd' has d; word x p 'a' has a; word x p 'b' has b;", 6);
        String[] sentences = {"o o o o", "c o o c", "c o o d", "c c d c", "c d c c", "a o o a", "a o o b", "a o b a", "a b a a"};
        int[] due = {1, 1, 0, 0, 0, 1, 0, 0, 0};
        for (int i = 0; i < due.length; i++) {
            c.tape(sentences[i]);
            c.due("parse " + sentences[i], c.x.parse(0, 1), due[i]);
        }
    }

    // "A LIN of one ITEM that is an argument: that one's KIND must have a lesser number than the FUN's (6 at the ITEM)"
    private static void linOfOneItem() {
        Check c = new Check("lin of one item");
        c.done("kind k0; kind k1; kind k2; fun pad : k0 > k1;", 4);
        StringBuilder funs = new StringBuilder();
        for (int from = 0; from < 3; from++) {
            for (int to = 0; to < 3; to++) {
                funs.append("fun f" + from + to + ":k" + from + ">k" + to + ";fun g" + from + to + ":k" + to + " k" + from + ">k" + to + ";");
            }
        }
        c.done(funs.toString(), 18);
        c.done("tongue t;", 1);
        for (int from = 0; from < 3; from++) {
            for (int to = 0; to < 3; to++) {
                String name = "f" + from + to;
                if (from < to) {
                    c.done("lin " + name + " = 1;", 1);
                    c.wrongAt("lin ^g" + from + to + " = 2;", 6);
                } else {
                    c.wrongAt("lin " + name + " = ^1;", 6);
                    c.wrongAt("lin " + name + " =    ^1 cost 3;", 6);
                    c.wrongAt("lin g" + from + to + " = ^2;", 6);
                }
                c.wrongAt("lin g" + from + to + " = ^1;", 6);
                c.done("lin " + name + " = 1 'a';", 1);
            }
        }
        c.wrongAt("lin f00 = 1 cost ^10001;", 5);
        c.wrongAt("lin f00 = 1 ^?", 1);
    }

    // "then: an argument that is no ITEM: 6 at the FUN"
    private static void argumentsThatAreNoItems() {
        Check c = new Check("arguments that are no items");
        c.done("kind n; kind s; fun f : n > s; fun g : n n > s; fun h : n n n n > s; tongue t;", 6);
        c.wrongAt("lin ^f = 'a';", 6);
        c.wrongAt("lin ^f = 'a' 'b' 'c' 'd' 'e' 'f';", 6);
        c.wrongAt("lin ^g = 1;", 6);
        c.wrongAt("lin ^g = 2;", 6);
        c.wrongAt("lin ^g = 'a' 2;", 6);
        c.wrongAt("lin   ^g = 1 'a' cost 5;", 6);
        c.wrongAt("lin ^h = 1 2 3;", 6);
        c.wrongAt("lin ^h = 4 2 3;", 6);
        c.wrongAt("lin ^h = 4 1 3 'a' 'b';", 6);
        c.done("lin h = 4 1 3 2;", 1);
        c.due("lins", c.x.count(0, 14), 1);
    }

    // "mean FUN = TERM: the meaning of a FUN (there is one: 4)", "the NUMBER of an argument (none such: 5)"
    private static void meanings() {
        Check c = new Check("meanings");
        c.done("kind n; fun a : > n; fun b : > n; fun f : n n n n > n; mean a = x; mean f = 4(1,2,3);", 6);
        c.wrongAt("mean ^a = x;", 4);
        c.wrongAt("mean ^f = x;", 4);
        c.wrongAt("mean ^a ?", 4);
        c.wrongAt("mean ^n = x;", 5);
        c.wrongAt("mean b = ^1;", 5);
        c.wrongAt("mean b = ^0;", 5);
        c.wrongAt("mean b = x(^1);", 5);
        c.done("fun g : n n n n > n; fun h : n > n; fun i : n > n;", 3);
        c.wrongAt("mean g = ^0;", 5);
        c.wrongAt("mean g = ^5;", 5);
        c.wrongAt("mean g = \\x.^999999;", 5);
        c.wrongAt("mean g = 1(2)(3)(4)(^5);", 5);
        c.wrongAt("mean h = 1(^2);", 5);
        c.wrongAt("mean h = \\^;", 1);
        c.wrongAt("mean h = \\^\\x.x;", 1);
        c.wrongAt("mean h = \\x^;", 1);
        c.wrongAt("mean h = \\x.^;", 1);
        c.wrongAt("mean h = \\x.x ^x;", 1);
        c.wrongAt("mean h = x^.x;", 1);
        c.wrongAt("mean h = x(^);", 1);
        c.wrongAt("mean h = (x)^x;", 1);
        c.wrongAt("mean h = ^'x';", 1);
        c.done("mean g = 4(4); mean h = \\x.1; mean i = 1;", 3);
        c.wrongAt("mean ^i = 1;", 4);
    }

    // "TERMS stand in one another 40 deep at most (5 at the TOKEN with which the next would begin)"
    private static void fortyDeep() {
        Check c = new Check("forty deep");
        c.done("kind n;" + row("fun f", 0, 8, ":>n;"), 9);
        c.done("mean f0 = " + Check.times("(", 39) + "x" + Check.times(")", 39) + ";", 1);
        c.done("mean f1 = " + Check.times("(", 38) + "x(y,z)" + Check.times(")", 38) + ";", 1);
        c.done("mean f2 = " + Check.times("\\x.", 39) + "x;", 1);
        c.wrongAt("mean f3 = " + Check.times("(", 40) + "^x" + Check.times(")", 40) + ";", 5);
        c.wrongAt("mean f3 = " + Check.times("(", 39) + "x(^y)" + Check.times(")", 39) + ";", 5);
        c.wrongAt("mean f3 = " + Check.times("\\x.", 40) + "^x;", 5);
        c.wrongAt("mean f3 = " + Check.times("\\x.", 39) + "(^x);", 5);
        c.wrongAt("mean f3 = " + Check.times("\\x.", 39) + "x(^x);", 5);
        c.wrongAt("mean f3 = " + Check.times("x(", 40) + "^x" + Check.times(")", 40) + ";", 5);
        c.wrongAt("mean f3 = " + Check.times("x(", 40) + "^\\x.x", 5);
        c.wrongAt("mean f3 = " + Check.times("x(", 40) + "^(", 5);
        c.wrongAt("mean f3 = " + Check.times("x(", 40) + "^1", 5);
        c.wrongAt("mean f3 = " + Check.times("x(", 40) + "^,", 1);
        c.wrongAt("mean f3 = " + Check.times("x(", 40) + "^?", 1);
        // Those beside one another are not in one another.
        c.done("mean f3 = x((y),(y),(y),(y))((y))(((y)))((y),((y)));", 1);
        c.done("mean f4 = " + Check.times("(", 38) + "x(y)(y)(y)(y)" + Check.times(")", 38) + ";", 1);
        // What is 40 deep and has 40 nodes is both at its edge: 39 binders and a name.
        c.tape("f2");
        c.due("tree", c.x.tree(0), 1);
        c.due("mean", c.x.mean(0), 9 * 4 + 30 * 5 + 3);
    }

    // "a TERM has at most 40 nodes (2): each \\, each name or NUMBER, each argument that something is applied to"
    private static void fortyNodes() {
        Check c = new Check("forty nodes");
        c.done("kind n; fun a : n > n; fun b : n > n; fun d : n > n; fun e : n > n; fun z : > n;", 6);
        // A name, and two for each argument: 39; a binder, or a NUMBER in ( ), or an argument.
        String odd = "x" + Check.times("(1)", 19);
        c.done("mean a = \\y." + odd + ";", 1);
        c.wrongAt("  ^mean b = \\y.\\y." + odd + ";", 2);
        c.wrongAt("^mean b = \\y." + odd.replace("x(1)", "x(\\x.1)") + ";", 2);
        c.wrongAt("^mean b = " + odd + "(1);", 2);
        c.wrongAt("^mean b = x" + Check.times("(1,1)", 10) + ";", 2);
        c.wrongAt("^mean b = 1" + Check.times("(y)", 20) + ";", 2);
        c.wrongAt("^mean b = " + Check.times("x(", 20) + "x" + Check.times(")", 20) + ";", 2);
        c.wrongAt("mean b = " + odd + "(1) ^1;", 1);
        c.wrongAt("mean b = " + odd + "(1)(^2);", 5);
        c.done("mean b = (\\y.((" + Check.times("x(", 19) + "(x)" + Check.times(")", 19) + ")));", 1);
        c.done("mean d = \\y.x" + Check.times("(1,1)", 9) + "(1);", 1);
        c.done("mean e = " + Check.times("\\y.", 18) + "x" + Check.times("(y)", 9) + "(\\y.y);", 1);
        c.wrongAt("^mean z = " + odd.replace("1", "y") + "(y);", 2);
    }

    // "thing NAME (8 at most: 2; there is one: 4)"
    private static void eightThings() {
        Check c = new Check("eight things");
        c.done(row("thing t", 0, 7, ";"), 7);
        c.wrongAt("thing x; ^thing y;", 2);
        c.done("thing t7;", 1);
        c.wrongAt("^thing t8;", 2);
        c.wrongAt("thing ^t7;", 4);
        c.wrongAt("thing ^t0;", 4);
        c.wrongAt("thing t8 ^t9;", 1);
        c.wrongAt("thing ^8;", 1);
        c.due("things", c.x.count(0, 3), 8);
        c.done("fact p t7; fact p t7 t0; fact p t0 t7;", 3);
        c.wrongAt("fact p ^t8;", 5);
    }

    // "fact NAME THING [ THING ]: holds from now on (no such thing: 5; 64 at most: 2; a second time it is nothing)"
    private static void sixtyFourFacts() {
        Check c = new Check("64 facts");
        c.done("thing a; thing b;" + row("fact p", 0, 60, " a;"), 62);
        c.done("fact p0 a; fact p59 a; fact p0 a b; fact p0 b a; fact p0 b;", 5);
        c.due("facts", c.x.count(0, 4), 63);
        c.wrongAt("fact q a; ^fact q b;", 2);
        c.due("facts", c.x.count(0, 4), 63);
        c.done("fact q b b;", 1);
        c.wrongAt("^fact q b;", 2);
        c.wrongAt("^fact q b a;", 2);
        c.wrongAt("^fact r b b;", 2);
        c.wrongAt("fact q ^q;", 5);
        c.wrongAt("fact q a ^q;", 5);
        c.wrongAt("fact q a b ^b;", 1);
        c.wrongAt("fact ^5 a;", 1);
        c.done("fact q b b; fact p0 a b; fact p0 a;", 3);
        c.due("facts", c.x.count(0, 4), 64);
        c.done("kind n; fun x : > n; mean x = and(q(b,b),not(q(b)));", 3);
        c.tape("x");
        c.x.tree(0);
        c.due("the last one holds, what was refused does not", c.x.truth(0), 1);
    }

    // "The STATEMENTS of THE TAPE are done: how many. If one is wrong, or not ended, none is"
    private static void noneIsDone() {
        Check c = new Check("none is done");
        c.done("kind n; kind s; fun a : > n; fun f : n > s; tongue t; feature q = x y; letters l = 'a'; sound l > 'b'; pattern p { = 1 };", 9);
        c.done("word a p 'a'; lin f = 1; mean a = dog; thing rex; fact dog rex;", 5);
        String more = "tongue u; feature q = x y; letters l = 'a'; sound l > 'c'; pattern p { = 1 + 'u' }; word a p 'a'; lin f = 1 'u'; "
            + "tongue t; feature r = z w; letters m = 'b'; sound m > 'c'; pattern o { = 1 }; word a o 'm'; lin f = 'm' 1; "
            + "kind k; fun b : > k; mean f = 1; mean b = b; thing tom; fact dog tom; fact cat rex;";
        c.wrongAt(more + "kind ^n;", 4);
        c.wrongAt(more + "kind^", 1);
        c.wrongAt(more + "^?", 1);
        int[] due = {1, 2, 2, 1, 1, 0, 0, 0, 1, 2, 1, 1, 1, 1, 1};
        for (int what = 0; what < 15; what++) {
            c.due("count " + what, c.x.count(0, what), due[what]);
        }
        c.refuses("u was not made", () -> c.x.count(1, 8));
        c.refuses("u was not made", () -> c.x.analyse(1));
        c.gives("the form", c.x.cell(0, 0, 0), "b");
        c.tape("a");
        c.x.tree(0);
        c.gives("the meaning", c.x.mean(0), "dog");
        c.tape("f(a)");
        c.x.tree(1);
        c.givesNone("no meaning", c.x.mean(1), -2);
        c.gives("said", c.x.say(0, 1, 0), "b");
        c.givesNone("said once", c.x.say(0, 1, 1), -1);
        c.tape("b");
        c.due("number of a fun that was not made", c.x.number(0, 2), -1);
        // A TONGUE of that name is a new one.
        c.done("tongue u;", 1);
        for (int what = 8; what < 15; what++) {
            c.due("count " + what + " of u", c.x.count(1, what), 0);
        }
        c.done("feature q = y x; letters l = 'b'; sound l > 'd'; pattern p { = 1 + 'v' }; word a p 'b'; lin f = 1 'v';", 6);
        c.gives("the form in u", c.x.cell(1, 0, 0), "dv");
        c.gives("said in u", c.x.say(1, 1, 0), "dv v");
    }

    // The same, with all TONGUES there can be: each has what it had.
    private static void eightTonguesComeBack() {
        Check c = new Check("eight tongues come back");
        c.done("kind n; fun x : > n; fun f : n > n;" + row("tongue t", 0, 8, ";"), 11);
        StringBuilder more = new StringBuilder();
        for (int i = 0; i < 8; i++) {
            StringBuilder own = new StringBuilder("tongue t" + i + ";pattern p{=1};");
            own.append(Check.times("word x p 'a';", i + 1)).append(Check.times("sound 'a'>'b';", 8 - i));
            own.append(Check.times("lin f=1 'a';", i % 4)).append(row("letters l", 0, i % 3, "='a';"));
            c.tape(own.toString());
            c.due("module", c.x.module() > 0 ? 1 : 0, 1);
            more.append("tongue t" + i + ";feature f=x y;letters z='a';sound 'b'>'c';pattern q{=1};word x q 'a';lin f=1 'b';");
        }
        c.done("mean x = dog;", 1);
        c.wrongAt(more + "mean f = 1; ^?", 1);
        for (int i = 0; i < 8; i++) {
            int[] due = {0, 0, i % 3, 8 - i, 1, i + 1, i % 4};
            for (int what = 8; what < 15; what++) {
                c.due("count " + what + " of " + i, c.x.count(i, what), due[what - 8]);
            }
        }
        c.tape("x");
        c.x.tree(0);
        c.gives("mean", c.x.mean(0), "dog");
        // The last TONGUE that was meant is t7 again.
        c.done("feature f = x y; mean f = 1;", 2);
        c.due("features of t7", c.x.count(7, 8), 1);
    }

    // "-1 minus the byte where the wrong TOKEN begins (its end, if THE TAPE ends too soon)"
    private static void notEnded() {
        Check c = new Check("not ended");
        c.wrongAt("kind^", 1);
        c.wrongAt("kind   ^", 1);
        c.wrongAt("kind n^", 1);
        c.wrongAt("kind n ^", 1);
        c.wrongAt("kind n; kind^", 1);
        c.wrongAt("kind n;   kind m   ^", 1);
        String pad = Check.times(" ", 985);
        c.wrongAt(pad + "kind a; kind b^", 1);
        c.wrongAt(pad + "kind a; kind b^?", 1);
        c.wrongAt(pad + "       kind b  ^", 1);
        c.due("none", c.x.count(0, 1), 0);
        c.done("       " + pad + " kind b;", 1);
        c.due("one", c.x.count(0, 1), 1);
        c.done("kind n;   ", 1);
    }

    // rule: "The RULE by which the latest module() was wrong; 0 if it was not, or there was none."
    private static void theLatestModule() {
        Check c = new Check("the latest module");
        c.due("there was none", c.x.rule(), 0);
        c.wrongAt("^?", 1);
        c.due("it is told again", c.x.rule(), 1);
        c.tape("?");
        c.x.number(0, 0);
        c.tape("(");
        c.x.tree(0);
        c.due("other calls tell none", c.x.rule(), 1);
        c.done("kind n;", 1);
        c.due("the latest was right", c.x.rule(), 0);
        c.wrongAt("kind ^n;", 4);
        c.tape("(");
        c.x.tree(0);
        c.due("a tree is no module", c.x.rule(), 4);
        c.due("an empty one", c.x.module(), 0);
        c.due("is right", c.x.rule(), 0);
        c.wrongAt("^lin f = 1;", 3);
        c.wrongAt("fun f : ^x > n;", 5);
        c.wrongAt("fun f : n > n; tongue t; lin f = ^1;", 6);
        StringBuilder all = new StringBuilder();
        for (int i = 0; i < 8; i++) {
            all.append("thing t" + i + ";");
        }
        c.wrongAt(all + "^thing t8;", 2);
        c.done("   ", 0);
    }

    // number: "-1 if there is none. IllegalArgumentException for others, or no such TONGUE (for 3 to 5)."
    private static void numberOfNames() {
        Check c = Check.full("number");
        String[] first = {"en", "n", "dog", "num", "sg", "reg"};
        String[] last = {"es", "s", "and2", "num", "pl", "inv"};
        int[] due = {1, 6, 14, 0, 1, 2};
        for (int what = 0; what < 6; what++) {
            c.tape(first[what]);
            c.due("first of " + what, c.x.number(0, what), 0);
            c.tape(" " + last[what] + "  ");
            c.due("last of " + what, c.x.number(0, what), due[what]);
            for (String none : new String[] {"", " ", "zz", "5", "'dog'", "?", first[what] + ";", first[what] + " " + first[what]}) {
                c.tape(none);
                c.due("number of '" + none + "'", c.x.number(0, what), -1);
            }
        }
        for (int what = 0; what < 3; what++) {
            int w = what;
            c.tape(last[what]);
            c.due("whatever tongue", c.x.number(what == 0 ? -1 : 2, what), due[what]);
            c.refuses("no such tongue", () -> c.x.number(2, 3 + w));
            c.refuses("no such tongue", () -> c.x.number(-1, 3 + w));
        }
        c.refuses("what -1", () -> c.x.number(0, -1));
        c.refuses("what 6", () -> c.x.number(0, 6));
        c.tape("vb");
        c.due("a pattern of the other", c.x.number(1, 5), 1);
        c.tape("vb");
        c.due("is none of this", c.x.number(0, 5), -1);
    }

    // count: "IllegalArgumentException for others, or no such TONGUE (for 8 and above)."
    private static void countOfAll() {
        Check c = Check.full("count");
        for (int what = 0; what < 8; what++) {
            c.due("whatever tongue", c.x.count(-1, what), c.x.count(2, what));
        }
        for (int what = 8; what < 15; what++) {
            int w = what;
            c.refuses("no such tongue", () -> c.x.count(2, w));
            c.refuses("no such tongue", () -> c.x.count(-1, w));
        }
        c.refuses("what -1", () -> c.x.count(0, -1));
        c.refuses("what 15", () -> c.x.count(0, 15));
        c.due("what 14 of the last", c.x.count(1, 14), 7);
        // NODES and WAYS: "0 if it was -1 or -3, or a mend that found none".
        c.due("no sentence yet", c.x.count(0, 5) + c.x.count(0, 6), 0);
        c.tape("dogs run");
        c.due("parse", c.x.parse(0, 6), 1);
        // dogs: n, np; run: v, vp; both: s.
        c.due("nodes", c.x.count(0, 5), 5);
        c.due("ways", c.x.count(0, 6), 5);
        c.tape("dogs run");
        c.due("parse as another kind", c.x.parse(0, 0), 0);
        c.due("nodes", c.x.count(0, 5), 5);
        c.tape("dogs, run");
        c.due("no sentence", c.x.parse(0, 6), -3);
        c.due("nodes", c.x.count(0, 5), 0);
        c.due("ways", c.x.count(0, 6), 0);
        c.tape("dog run");
        c.due("mend", c.x.mend(0, 6), 1);
        c.due("nodes of what was mended", c.x.count(0, 5), 5);
        c.tape("zebra run");
        c.due("mend in vain", c.x.mend(0, 6), -1);
        c.due("nodes", c.x.count(0, 5), 0);
        c.due("ways", c.x.count(0, 6), 0);
        c.tape("dogs run");
        c.due("swap", c.x.swap(0, 6, 1), 1);
        c.due("nodes", c.x.count(0, 5), 5);
        c.tape("dogs run ?");
        c.due("swap of none", c.x.swap(0, 6, 1), -3);
        c.due("nodes", c.x.count(0, 5), 0);
    }

    // As much of it as a module can bring: 32 KINDS, 96 FUNS, and four LINS of each with arguments.
    private static void everythingFull() {
        Check c = new Check("everything full");
        c.done(row("kind k", 0, 32, ";"), 32);
        c.done("fun x:>k0;" + row("fun f", 0, 47, ":k0>k31;"), 48);
        c.done(row("fun f", 47, 95, ":k0>k31;"), 48);
        c.done("tongue t;pattern p{=1};word x p'a';", 3);
        for (int from = 0; from < 95; from += 19) {
            StringBuilder lins = new StringBuilder();
            for (int i = from; i < from + 19; i++) {
                lins.append(Check.times("lin f" + i + "=1;", 4));
            }
            c.done(lins.toString(), 76);
        }
        c.due("lins", c.x.count(0, 14), 380);
        c.wrongAt("^lin f0 = 1;", 2);
        c.wrongAt("^lin f94 = 1;", 2);
        c.tape("a");
        c.due("parse", c.x.parse(0, 31), 1);
        c.due("trees", c.x.trees(), 380);
        c.due("nodes", c.x.count(0, 5), 2);
        c.due("ways", c.x.count(0, 6), 381);
        c.due("bar", c.x.bar(95, true), 376);
        c.tape("f94(x)");
        c.due("tree", c.x.tree(0), 2);
        c.gives("say", c.x.say(0, 0, 3), "a");
        c.givesNone("say", c.x.say(0, 0, 4), -1);
    }
}
