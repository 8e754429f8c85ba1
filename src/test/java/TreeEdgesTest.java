/** The edges that Terms 5 and promises 19 to 22 name: each method is for the words of the document above it. */
public final class TreeEdgesTest {
    public static void main(String[] args) {
        sixtyFuns();
        eightPlaces();
        theFirstWrongToken();
        nothingComesToThePlace();
        showOfATree();
        sameTrees();
        optionsOfWords();
        optionsOfLins();
        putTogetherAsInFour();
        twentyFourOfWords();
        twentyFourOfEach();
        twoHundredBytes();
        tooLongIsNone();
        oneBlankBetween();
        noOption();
        Check.finish();
    }

    private static int plant(Check c, int place, String tree) {
        c.tape(tree);
        return c.x.tree(place);
    }

    private static void wrong(Check c, String marked) {
        int at = marked.indexOf('^');
        c.due("tree of " + marked, plant(c, 7, marked.substring(0, at) + marked.substring(at + 1)), -1 - at);
    }

    private static void says(Check c, String tree, String... due) {
        plant(c, 0, tree);
        for (int i = 0; i < due.length; i++) {
            c.gives("say " + i + " of " + tree, c.x.say(0, 0, i), due[i]);
        }
        c.givesNone("no more of " + tree, c.x.say(0, 0, due.length), -1);
    }

    // "of 60 FUNS at most"; tree: "a 61st FUN"
    private static void sixtyFuns() {
        Check c = new Check("sixty funs");
        c.done("kind n; fun a : > n; fun f : n > n; fun g : n n > n; fun h : n n n n > n;", 5);
        c.due("one", plant(c, 0, "a"), 1);
        for (int n = 58; n <= 61; n++) {
            String chain = Check.times("f(", n - 1) + "a" + Check.times(")", n - 1);
            c.due(n + " in a chain", plant(c, 1, chain), n <= 60 ? n : -1 - 2 * 60);
        }
        c.due("the last one that came", c.x.show(1), 2 * 59 + 1 + 59);
        // 29 g with an a each and one more: 59; an f around it is the 60th.
        String wide = Check.times("g(a,", 29) + "a" + Check.times(")", 29);
        c.due("59", plant(c, 2, wide), 59);
        c.due("60", plant(c, 2, "f(" + wide + ")"), 60);
        wrong(c, Check.times("g(a,", 30) + "^a" + Check.times(")", 30));
        wrong(c, "f(f(" + Check.times("g(a,", 29) + "^a" + Check.times(")", 31));
        // The 61st is wrong whatever it is; what is wrong ahead of it comes first.
        wrong(c, Check.times("g(a,", 30) + "^zz");
        wrong(c, Check.times("g(a,", 30) + "^g(");
        wrong(c, Check.times("g(a,", 30) + "^5");
        wrong(c, Check.times("g(a,", 29) + "g(a^)");
        wrong(c, "g(a,g(a^(," + Check.times("g(a,", 30));
        String four = "h(a,a,a,a)";
        // 5 + 4 * 5 .. FUNS: 5 of one, 21 of h with four of them.
        String twentyOne = "h(" + four + "," + four + "," + four + "," + four + ")";
        c.due("21", plant(c, 3, twentyOne), 21);
        c.due("57", plant(c, 3, "h(" + twentyOne + "," + twentyOne + ",h(" + four + "," + four + ",a,a),a)"), 1 + 21 + 21 + 13 + 1);
    }

    // "There are eight places (0 to 7) for them."; "IllegalArgumentException: no such place (so in all)"
    private static void eightPlaces() {
        Check c = Check.full("eight places");
        String[] trees = {"dog", "cat", "fly", "big", "the", "every", "run", "see"};
        for (int place = 0; place < 8; place++) {
            c.due("none at first", c.x.show(place), -1);
            c.due("tree", plant(c, place, trees[place]), 1);
        }
        for (int place = 0; place < 8; place++) {
            c.gives("each has its own", c.x.show(place), trees[place]);
        }
        c.due("another one takes the place", plant(c, 3, "mod(big,dog)"), 3);
        c.gives("show", c.x.show(3), "mod(big,dog)");
        c.due("a shorter one takes the place", plant(c, 3, "cat"), 1);
        c.gives("show", c.x.show(3), "cat");
        for (int place : new int[] {-1, 8}) {
            c.tape("dog");
            c.refuses("tree", () -> c.x.tree(place));
            c.refuses("reading", () -> c.x.reading(0, place));
            c.refuses("show", () -> c.x.show(place));
            c.refuses("same", () -> c.x.same(place, 0) ? 1 : 0);
            c.refuses("same", () -> c.x.same(0, place) ? 1 : 0);
            c.refuses("same", () -> c.x.same(place, place) ? 1 : 0);
            c.refuses("say", () -> c.x.say(0, place, 0));
            c.refuses("mean", () -> c.x.mean(place));
            c.refuses("truth", () -> c.x.truth(place));
        }
    }

    // "-1 minus the byte of the first wrong TOKEN (no such FUN, an argument of another KIND at its FUN, too many or too few, a 61st FUN)"
    private static void theFirstWrongToken() {
        Check c = Check.full("the first wrong token");
        wrong(c, "^");
        wrong(c, "   ^");
        wrong(c, "^zz");
        wrong(c, "  ^zz(dog)");
        wrong(c, "^n");
        wrong(c, "^DOG");
        wrong(c, "^'dog'");
        wrong(c, "^?");
        wrong(c, "^abcdefghi");
        wrong(c, "det(^zz,dog)");
        wrong(c, "det(the,^zz)");
        wrong(c, "det(the,^zz");
        wrong(c, "det(^dog,dog)");
        wrong(c, "det(^dog,zz)");
        wrong(c, "det(^mod(big,dog),dog)");
        wrong(c, "det(the,^the)");
        wrong(c, "pred(det(the,dog),^det(the,dog))");
        wrong(c, "pred(^iv(run),iv(run))");
        wrong(c, "dog^(");
        wrong(c, "dog^()");
        wrong(c, "dog^(dog)");
        wrong(c, "det(the,dog^,dog)");
        wrong(c, "iv(run^,run)");
        wrong(c, "det(the^)");
        wrong(c, "det^");
        wrong(c, "det ^)");
        wrong(c, "det(^)");
        wrong(c, "det(the^");
        wrong(c, "det(the ^");
        wrong(c, "det(the,dog^");
        wrong(c, "det(the,^");
        wrong(c, "det(the,^,");
        wrong(c, "det(the,dog)^)");
        wrong(c, "det(the,dog)^,");
        wrong(c, "det(the,dog) ^dog");
        wrong(c, "det(the,dog)^?");
        wrong(c, "det^;the,dog)");
        wrong(c, "det(the^;dog)");
        wrong(c, "det(the,dog^;");
        wrong(c, "det(the,dog^]");
        c.due("all these are right", plant(c, 0, "pred ( det ( the , mod ( big , dog ) ) , tv ( see , bare ( cat ) ) )"), 10);
    }

    private static void nothingComesToThePlace() {
        Check c = Check.full("nothing comes");
        c.due("tree", plant(c, 5, "mod(big,dog)"), 3);
        for (String bad : new String[] {"", "zz", "mod(big,cat", "mod(big,big)", "dog dog"}) {
            c.due("tree of " + bad, plant(c, 5, bad) < 0 ? 1 : 0, 1);
            c.gives("it has the old one", c.x.show(5), "mod(big,dog)");
            c.due("tree of " + bad, plant(c, 6, bad) < 0 ? 1 : 0, 1);
            c.givesNone("it has none", c.x.show(6), -1);
        }
        c.gives("it is said", c.x.say(0, 5, 0), "big dog");
    }

    // show: "how many bytes; -1 if there is none"
    private static void showOfATree() {
        Check c = new Check("show");
        c.done("kind n; fun abcdefgh : n > n; fun a : > n; fun f : n n > n; fun g : n n n n > n;", 5);
        String chain = Check.times("abcdefgh(", 59) + "a" + Check.times(")", 59);
        c.due("tree", plant(c, 0, chain), 60);
        c.due("show", c.x.show(0), 9 * 59 + 1 + 59);
        for (int i : new int[] {0, 8, 9, 530, 531, 532, 590}) {
            c.due("byte " + i, c.x.out(i), chain.charAt(i));
        }
        c.due("no more", c.x.out(591), -1);
        String mixed = "g(f(a,a),a,g(a,a,f(a,abcdefgh(a)),a),f(f(a,a),a))";
        c.due("tree", plant(c, 1, mixed), 18);
        c.gives("show", c.x.show(1), mixed);
        c.due("tree", plant(c, 1, "a"), 1);
        c.gives("show", c.x.show(1), "a");
        c.givesNone("none", c.x.show(2), -1);
    }

    // same: "Whether the TREES of two places are the same (none is the same as none)."
    private static void sameTrees() {
        Check c = Check.full("same");
        String[] trees = {"dog", "cat", "mod(big,dog)", "mod(big,cat)", "dog", "mod(big,dog)", null, null};
        for (int place = 0; place < 6; place++) {
            plant(c, place, trees[place]);
        }
        for (int a = 0; a < 8; a++) {
            for (int b = 0; b < 8; b++) {
                boolean due = trees[a] == null ? trees[b] == null : trees[a].equals(trees[b]);
                c.due("same " + a + " " + b, c.x.same(a, b) ? 1 : 0, due ? 1 : 0);
            }
        }
        // A READING and a TREE of the tape can be the same.
        c.tape("the big dog runs");
        c.due("parse", c.x.parse(0, 6), 1);
        c.due("reading", c.x.reading(0, 6), 8);
        plant(c, 7, "pred(det(the,mod(big,dog)),iv(run))");
        c.due("same", c.x.same(6, 7) ? 1 : 0, 1);
        plant(c, 7, "pred(det(the,mod(big,dog)),iv(see))");
        c.due("not the same", c.x.same(6, 7) ? 1 : 0, 0);
        plant(c, 7, "pred(det(every,mod(big,dog)),iv(run))");
        c.due("not the same", c.x.same(6, 7) ? 1 : 0, 0);
    }

    // "an OPTION of a TREE is a text with VALUES: of each WORD and CELL of its FUN, by number"
    private static void optionsOfWords() {
        Check c = new Check("options of words");
        c.done("kind n; fun x : > n; fun y : > n; fun z : > n; tongue t; feature f = a b c; pattern p { a = 1 + 'a', b = -, c = 1 + 'c' }; pattern q { = 2 };", 8);
        c.done("word x p 'k'; word y p 'l'; word x q 'm'; word x q 'm' 'm'; word x p 'n' cost 0; word y p 'k' cost 1; word y q 'o' 'o';", 7);
        says(c, "x", "ka", "kc", "m", "na", "nc");
        says(c, "y", "la", "lc", "o", "ka", "kc");
        says(c, "z");
        // A WORD of 24 CELLS has no form of the WORD behind it.
        Check d = new Check("24 cells");
        d.done("kind n; fun x : > n; fun y : > n; tongue t; feature f = a1 a2 a3 a4 a5 a6; feature g = b1 b2 b3 b4; pattern one { = 1 };", 7);
        StringBuilder cells = new StringBuilder("a1 b1=1");
        for (int i = 1; i < 24; i++) {
            cells.append(", a" + (i % 6 + 1) + " b" + (i / 6 + 1) + "=" + (i == 23 ? "1+'z'" : "-"));
        }
        d.done("pattern p {" + cells + "}; word x p 'o'; word y one 'u'; word x p 'm'; word y one 'w';", 5);
        says(d, "x", "o", "oz", "m", "mz");
        says(d, "y", "u", "w");
    }

    // "for each LIN, the OPTIONS of its arguments put together as in 4 (the argument of the first ITEM changing slowest)"
    private static void optionsOfLins() {
        Check c = new Check("options of lins");
        c.done("kind n; kind s; fun x : > n; fun y : > n; fun f : n n > s; fun g : n n n > s; tongue t; pattern p { = 1 };", 8);
        c.done("word x p 'a'; word x p 'b'; word y p 'c'; word y p 'd'; lin f = 1 2; lin f = 2 'z' 1; lin g = 3 1 2;", 7);
        says(c, "f(x,y)", "a c", "a d", "b c", "b d", "c z a", "c z b", "d z a", "d z b");
        says(c, "g(x,y,x)", "a a c", "a a d", "a b c", "a b d", "b a c", "b a d", "b b c", "b b d");
        Check d = new Check("options by price");
        d.done("kind n; kind s; fun x : > n cost 3; fun y : > n; fun f : n n > s cost 2; tongue t; pattern p { = 1 };", 7);
        d.done("word x p 'a' cost 1; word x p 'b'; word y p 'c' cost 1; word y p 'd'; lin f = 1 2 cost 1; lin f = 2 'z' 1;", 6);
        // x is b, then a; y is d, then c.
        says(d, "f(x,y)", "d z b", "b d", "d z a", "c z b", "b c", "a d", "c z a", "a c");
    }

    // "put together as in 4"
    private static void putTogetherAsInFour() {
        Check c = new Check("as in 4");
        c.done("kind n; kind s; kind z; fun x : > n; fun y : > n; fun f : n n > s; fun h : s > z; fun k : s > z; tongue t; feature q = a b; pattern p { = 1 };", 11);
        c.done("word x p 'o'; word x p 'a' has a; word x p 'b' has b; word y p 'u'; lin f = 1[b] 2, agree 2 1 q, give 2 q; lin h = 'isa' 1[a]; lin k = 'isb' 1[b];", 7);
        says(c, "f(x,y)", "o u", "b u");
        says(c, "f(y,x)", "u o", "u b");
        says(c, "f(x,x)", "o o", "o b", "b o", "b b");
        says(c, "h(f(x,x))");
        says(c, "k(f(y,y))", "isb u u");
        c.done("fun g : n n n > s; lin g = 1 2 3, agree 1 2 q, agree 1 3 q, give 1 q;", 2);
        says(c, "g(y,x,x)", "u o o", "u o a", "u o b", "u a o", "u a a", "u b o", "u b b");
        says(c, "h(g(y,x,x))", "isa u o o", "isa u o a", "isa u a o", "isa u a a");
    }

    // "The first 24 by price, then in this order, are kept of each"
    private static void twentyFourOfWords() {
        Check c = new Check("24 of words");
        c.done("kind n; fun x : > n; fun y : > n; tongue t; pattern p { = 1 };", 5);
        StringBuilder words = new StringBuilder();
        for (int i = 0; i < 26; i++) {
            words.append("word x p '" + (char) ('a' + i) + "';");
        }
        c.done(words.toString(), 26);
        String[] due = new String[24];
        for (int i = 0; i < 24; i++) {
            due[i] = "" + (char) ('a' + i);
        }
        says(c, "x", due);
        c.givesNone("say 25", c.x.say(0, 0, 25), -1);
        // A cheaper one comes first, and the last one is kept no more.
        words.setLength(0);
        for (int i = 0; i < 24; i++) {
            words.append("word y p 'z" + (char) ('a' + i) + "' cost " + (i < 3 ? 2 : 1) + ";");
        }
        c.done(words.toString(), 24);
        plant(c, 1, "y");
        c.gives("say 20", c.x.say(0, 1, 20), "zx");
        c.gives("say 21", c.x.say(0, 1, 21), "za");
        c.gives("say 23", c.x.say(0, 1, 23), "zc");
        c.done("word y p 'q'; word y p 'r' cost 1; word y p 's' cost 2; word y p 't' cost 3;", 4);
        c.gives("say 0", c.x.say(0, 1, 0), "q");
        c.gives("say 1", c.x.say(0, 1, 1), "zd");
        c.gives("say 22", c.x.say(0, 1, 22), "r");
        c.gives("say 23", c.x.say(0, 1, 23), "za");
        c.givesNone("say 24", c.x.say(0, 1, 24), -1);
    }

    private static void twentyFourOfEach() {
        Check c = new Check("24 of each");
        c.done("kind n; kind s; kind z; fun x : > n; fun y : > n; fun f : n n > s; fun h : s > z; tongue t; feature q = a b c d e g; pattern p { = 1 };", 10);
        StringBuilder words = new StringBuilder();
        for (int i = 0; i < 6; i++) {
            words.append("word x p '" + (char) ('a' + i) + "' has " + "abcdeg".charAt(i) + ";");
            words.append("word y p '" + (char) ('p' + i) + "';");
        }
        c.done(words.toString(), 12);
        c.done("lin f = 1 2, give 1 q; lin h = 'e' 1[e]; lin h = 'd' 1[d];", 3);
        // 36 OPTIONS, of which those with a to d are kept.
        plant(c, 0, "f(x,y)");
        c.gives("say 0", c.x.say(0, 0, 0), "a p");
        c.gives("say 23", c.x.say(0, 0, 23), "d u");
        c.givesNone("say 24", c.x.say(0, 0, 24), -1);
        says(c, "h(f(x,y))", "d d p", "d d q", "d d r", "d d s", "d d t", "d d u");
        plant(c, 0, "f(y,x)");
        c.gives("say 23", c.x.say(0, 0, 23), "s f");
        c.givesNone("say 24", c.x.say(0, 0, 24), -1);
        // A cheap LIN that comes later takes places from the dear ones.
        c.done("fun g : n n > s; lin g = 1 2 cost 1; lin g = 2 1; tongue t;", 4);
        plant(c, 0, "g(x,y)");
        c.gives("say 0", c.x.say(0, 0, 0), "p a");
        c.gives("say 23", c.x.say(0, 0, 23), "s f");
        c.givesNone("say 24", c.x.say(0, 0, 24), -1);
        c.done("fun j : > n; word j p 'w'; word j p 'v';", 3);
        plant(c, 0, "g(j,x)");
        c.gives("say 11", c.x.say(0, 0, 11), "f v");
        c.gives("say 12", c.x.say(0, 0, 12), "w a");
        c.gives("say 23", c.x.say(0, 0, 23), "v f");
        c.givesNone("say 24", c.x.say(0, 0, 24), -1);
    }

    // "a text of more than 200 bytes is none"
    private static void twoHundredBytes() {
        Check c = new Check("200 bytes");
        c.done("kind n; kind m; kind s; fun x : > n; fun f : n n n n > m; fun g : m m > s; tongue t; pattern p { = 1 + 1 }; word x p 'abcdefghijkl';", 9);
        for (int i = 1; i <= 3; i++) {
            c.done("fun e" + i + " : s > s; lin e" + i + " = 1 '" + "zzz".substring(0, i) + "';", 2);
        }
        c.done("lin f = 1 2 3 4; lin g = 1 2; fun i : > n; pattern q { = 1 + 2 }; word i q 'abcdefghijkl' 'abcdefghijk'; fun k : s > s; lin k = 'k' 1;", 7);
        // Eight words of 24 letters and seven blanks: 199; with one of 23: 198.
        String four = "f(x,x,x,x)";
        plant(c, 0, "g(" + four + "," + four + ")");
        c.due("199", c.x.say(0, 0, 0), 199);
        plant(c, 0, "g(f(i,x,x,x)," + four + ")");
        c.due("198", c.x.say(0, 0, 0), 198);
        plant(c, 0, "e1(g(f(i,x,x,x)," + four + "))");
        c.due("200", c.x.say(0, 0, 0), 200);
        c.due("the last byte", c.x.out(199), 'z');
        c.due("no more", c.x.out(200), -1);
        plant(c, 0, "k(g(f(i,x,x,x)," + four + "))");
        c.due("200", c.x.say(0, 0, 0), 200);
        plant(c, 0, "e2(g(f(i,x,x,x)," + four + "))");
        c.givesNone("201", c.x.say(0, 0, 0), -1);
        plant(c, 0, "e1(g(" + four + "," + four + "))");
        c.givesNone("201", c.x.say(0, 0, 0), -1);
        plant(c, 0, "e2(g(f(i,i,x,x)," + four + "))");
        c.due("200", c.x.say(0, 0, 0), 200);
        plant(c, 0, "e3(g(f(i,i,x,x)," + four + "))");
        c.givesNone("201", c.x.say(0, 0, 0), -1);
    }

    private static void tooLongIsNone() {
        Check c = new Check("too long is none");
        c.done("kind n; kind m; kind s; fun x : > n; fun y : > n; fun f : n n n n > m; fun k : n n n > m; fun w : m m n > s; tongue t; pattern p { = 1 + 1 };", 10);
        StringBuilder words = new StringBuilder();
        for (int i = 0; i < 24; i++) {
            words.append("word y p 'ab" + (char) ('a' + i) + "';");
        }
        c.done(words + "pattern o { = 1 }; word y o 'a' cost 9;", 26);
        c.done("word x p 'abcdefghijkl'; lin f = 1 2 3 4; lin k = 1 2 3; lin w = 1 2 3 'abcdefghijkl' 'abcdefghijkl'; lin w = 1 2 3 cost 5;", 5);
        plant(c, 0, "w(f(x,x,x,x),k(x,x,x),y)");
        // 207 bytes by the first LIN: none of them takes one of the 24 places.
        c.due("181 bytes by the second", c.x.say(0, 0, 0), 181);
        c.due("its last byte", c.x.out(180), 'a');
        c.due("the last that is kept", c.x.say(0, 0, 23), 181);
        c.due("its last byte", c.x.out(180), 'x');
        c.givesNone("no more", c.x.say(0, 0, 24), -1);
        Check d = new Check("the short ones are kept");
        d.done("kind n; kind s; fun x : > n; fun y : > n; fun f : n n n n > n; fun g : n n n > s; tongue t; pattern p { = 1 + 1 }; word x p 'abcdefghijkl';", 9);
        d.done("word y p 'abcdefg'; pattern o { = 1 }; word y o 'a' cost 9; word y o 'b' cost 3; lin f = 1 2 3 4; lin g = 1 2 3;", 6);
        plant(d, 0, "g(f(x,x,x,x),f(x,x,x,y),y)");
        // 176 bytes and the two y, of 14, 1 and 1 letters for 0, 3 and 9: 14 and 14 are too many.
        int[] size = {191, 191, 178, 191, 191, 178, 178, 178};
        String last = "bgbagaba";
        for (int i = 0; i < size.length; i++) {
            d.due("say " + i, d.x.say(0, 0, i), size[i]);
            d.due("its last byte", d.x.out(size[i] - 1), last.charAt(i));
        }
        d.givesNone("no more", d.x.say(0, 0, 8), -1);
    }

    // "Words have one blank between them."
    private static void oneBlankBetween() {
        Check c = new Check("one blank between");
        c.done("kind n; kind s; fun x : > n; fun f : n n > s; fun g : s > s; tongue t; pattern p { = 1 }; word x p 'o'; lin f = 'a' 1 'b' 2 'c'; lin g = 'd' 'e' 1 'f';", 10);
        says(c, "f(x,x)", "a o b o c");
        says(c, "g(g(f(x,x)))", "d e d e a o b o c f f");
        says(c, "x", "o");
    }

    // say: "-1 if there is none"
    private static void noOption() {
        Check c = Check.full("no option");
        plant(c, 0, "mod(big,dog)");
        c.gives("option 0", c.x.say(0, 0, 0), "big dog");
        c.gives("option 1", c.x.say(0, 0, 1), "big dogs");
        c.givesNone("option 2", c.x.say(0, 0, 2), -1);
        c.givesNone("option -1", c.x.say(0, 0, -1), -1);
        c.givesNone("an empty place", c.x.say(0, 1, 0), -1);
        c.refuses("no such tongue", () -> c.x.say(2, 0, 0));
        c.refuses("no such tongue", () -> c.x.say(-1, 0, 0));
        c.refuses("no such tongue for an empty place", () -> c.x.say(2, 1, 0));
        c.done("tongue new;", 1);
        c.givesNone("a tongue without words", c.x.say(2, 0, 0), -1);
        c.done("pattern p { = 1 }; word dog p 'd'; word big p 'b';", 3);
        c.givesNone("a tongue without lins", c.x.say(2, 0, 0), -1);
        c.done("lin mod = 2 1;", 1);
        c.gives("a tongue with all of it", c.x.say(2, 0, 0), "d b");
        plant(c, 0, "mod(big,fly)");
        c.givesNone("a word that it has not", c.x.say(2, 0, 0), -1);
    }
}
