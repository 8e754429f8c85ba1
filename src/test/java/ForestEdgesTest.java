/** The edges that Terms 4 and promises 14 to 18 name: each method is for the words of the document above it. */
public final class ForestEdgesTest {
    public static void main(String[] args) {
        wordsOfASentence();
        lettersAreThatWord();
        valuesInBrackets();
        agreeOfWhoHasNone();
        allAgreesBeforeAnyGive();
        givesOfEachArgument();
        withoutGiveItHasNone();
        theFirstAndTheLastFeature();
        oneNodeWithSeveralWays();
        waysByFun();
        waysByLin();
        waysByEnds();
        waysByValues();
        waysByFeatures();
        sixteenOfOneArgument();
        sixteenOfTwoArguments();
        priceThenNode();
        tooManyWays();
        overAllWords();
        oneOrNone();
        noForestIsLeft();
        aSmallerForest();
        atMostSoManyTrees();
        barred();
        barsOfAParse();
        pricesOfReadings();
        sixtyFuns();
        noSuchPlace();
        Check.finish();
    }

    private static int parse(Check c, int kind, String sentence) {
        c.tape(sentence);
        return c.x.parse(0, kind);
    }

    private static void parses(Check c, int kind, int due, String... sentences) {
        for (String sentence : sentences) {
            c.due("parse " + sentence, parse(c, kind, sentence), due);
        }
    }

    private static void readings(Check c, int from, String... trees) {
        for (int i = 0; i < trees.length; i++) {
            c.due("funs of reading " + (from + i), c.x.reading(from + i, 0), trees[i].split("[(,]").length);
            c.gives("reading " + (from + i), c.x.show(0), trees[i]);
        }
    }

    // "words of one to 24 letters with blanks between; 24 at most (what is none: -3)"
    private static void wordsOfASentence() {
        Check c = Check.full("words of a sentence");
        String most = Check.times("q", 24);
        parses(c, 6, 0, "q", "a b", "a  b", most, most + " " + most, Check.times("q ", 23) + "q", Check.times("q ", 23) + most);
        parses(c, 6, -3, "", " ", "     ", most + "q", "q " + most + "q", most + "q q", Check.times("q ", 24) + "q", Check.times("q ", 40), "q,q", "q;",
            "Q", "q1", "q 1", "'q'", "q'", "q\tq", "q\nq", "q-q", "q.", "{", "`", "\u00e4");
        parses(c, 6, 1, "the dog runs", "the  dog   runs", "the dog and the dog and the dog and the dog and the dog and the dog and the dog and the dog run");
        c.due("25 words", parse(c, 6, "the dog and the dog and the dog and the dog and the dog and the dog and the dog and the dog big run"), -3);
        c.refuses("no such tongue", () -> c.x.parse(2, 6));
        c.refuses("no such tongue", () -> c.x.parse(-1, 6));
        c.refuses("no such kind", () -> c.x.parse(0, 7));
        c.refuses("no such kind", () -> c.x.parse(0, -1));
    }

    // "LETTERS are that word"
    private static void lettersAreThatWord() {
        Check c = Check.full("letters are that word");
        parses(c, 6, 1, "dogs and cats run");
        parses(c, 6, 0, "dogs an cats run", "dogs andy cats run", "dogs ande cats run", "dogs xand cats run", "dogs nd cats run", "dogs ane cats run", "dogs bnd cats run",
            "dogs and and cats run", "and dogs cats run", "dogs cats and run");
        Check d = new Check("letters at the edges");
        d.done("kind n; kind s; fun x : > n; fun f : n > s; fun g : n n > s; tongue t; pattern p { = 1 }; word x p 'o';", 8);
        d.done("lin f = 'abcdefghijkl' 1; lin f = 1 'a' 'b'; lin g = 'a' 'b' 1 'a' 2 'b';", 3);
        parses(d, 1, 1, "abcdefghijkl o", "o a b", "a b o a o b");
        parses(d, 1, 0, "abcdefghijklm o", "abcdefghijk o", "o a", "o b a", "o a b b", "a o a b", "a b o a o", "a b o o b", "b o a o b", "o", "a b", "a b o a o b b");
    }

    // "each VALUE in [ ] is its own, or it has none of that FEATURE (it has that one then)"
    private static void valuesInBrackets() {
        Check c = new Check("values in brackets");
        c.done("kind n; kind s; kind z; fun x : > n; fun f : n > s; fun g : n n > s; fun h : s > z; tongue t; feature q = a b c; feature r = d e; pattern p { = 1 };", 11);
        c.done("word x p 'o'; word x p 'a' has a; word x p 'b' has b; word x p 'd' has d; word x p 'ad' has a d; word x p 'be' has b e;", 6);
        c.done("lin f = 1[a] 'one'; lin f = 1[d a] 'two'; lin f = 1[a] 'give', give 1 q; lin f = 1[c e] 'ce', give 1 q, give 1 r;", 4);
        c.done("lin g = 1[a] 2, agree 1 2 q; lin h = 'is' 1[a]; lin h = 'isb' 1[b]; lin h = 'isc' 1[c e];", 4);
        parses(c, 1, 1, "o one", "a one", "d one", "ad one", "o two", "a two", "d two", "ad two", "o ce");
        parses(c, 1, 0, "b one", "be one", "b two", "be two", "d ce", "a ce", "ad ce");
        parses(c, 1, 1, "o a", "o o", "a a", "a o", "d ad", "o d");
        parses(c, 1, 0, "o b", "b b", "b o", "a b", "d be");
        parses(c, 2, 1, "is o give", "is o one", "isb o one", "isc o ce");
        parses(c, 2, 0, "isb o give", "isb d give", "is o ce", "isb o ce");
        Check d = new Check("values in brackets are kept");
        d.done("kind n; kind s; kind z; fun x : > n; fun f : n > s; fun h : s > z; tongue t; feature q = a b c; feature r = d e; pattern p { = 1 };", 10);
        d.done("word x p 'd' has d; lin f = 1[c] 'ce', give 1 q, give 1 r; lin h = 'yes' 1[c d]; lin h = 'no' 1[e]; lin h = 'not' 1[a];", 5);
        parses(d, 2, 1, "yes d ce");
        parses(d, 2, 0, "no d ce", "not d ce");
    }

    // "agree ..: both have the same VALUE, or one has none, who has the other's then, or none has"
    private static void agreeOfWhoHasNone() {
        Check c = new Check("agree of who has none");
        c.done("kind n; kind s; kind z; fun x : > n; fun f : n n > s; fun g : n n n > s; fun h : s > z; tongue t; feature q = a b; feature r = d e; pattern p { = 1 };", 11);
        c.done("word x p 'o'; word x p 'a' has a; word x p 'b' has b; lin f = 1 2 'one', agree 1 2 q, give 1 q; lin f = 1 2 'two', agree 1 2 q, give 2 q;", 5);
        c.done("lin g = 1 2 3, agree 1 2 q, agree 1 3 q; lin g = 1 2 3 'k', agree 2 1 q, agree 1 3 q; lin g = 1 2 3 'm', agree 1 2 q, agree 3 2 q;", 3);
        c.done("lin h = 'isa' 1[a]; lin h = 'isb' 1[b]; lin f = 1 2 'r', agree 1 2 r; lin f = 1 2 'self', agree 1 1 q, agree 2 2 q, give 2 q;", 4);
        parses(c, 2, 1, "isa o a one", "isa a o one", "isa o a two", "isa a o two", "isa a a one", "isb o b one", "isb b o two", "isa o o one", "isb o o two");
        parses(c, 2, 0, "isb o a one", "isb a o one", "isb o a two", "isb a o two", "isa a b one", "isa b a two", "isb a b two");
        parses(c, 1, 1, "o a a", "o a o", "a o a", "o o b", "o o o", "o a a k", "a o a k", "o a a m", "a o a m", "a b r", "a b self");
        parses(c, 1, 0, "o a b", "a o b", "o b a", "a b o", "o a b k", "a o b k", "o a b m", "a o b m", "b b a m");
        parses(c, 2, 1, "isb a b self");
        parses(c, 2, 0, "isa a b self");
    }

    // "(all of them, in the order of SAID, before any give)"
    private static void allAgreesBeforeAnyGive() {
        Check c = new Check("agrees before gives");
        c.done("kind n; kind s; kind z; fun x : > n; fun f : n n > s; fun g : n n n > s; fun h : s > z; tongue t; feature q = a b; pattern p { = 1 };", 10);
        c.done("word x p 'o'; word x p 'a' has a; word x p 'b' has b; lin f = 1 2, give 1 q, agree 1 2 q; lin h = 'isa' 1[a]; lin h = 'isb' 1[b];", 6);
        parses(c, 2, 1, "isa o a", "isb o b", "isa o o");
        parses(c, 2, 0, "isb o a", "isa o b");
        // In the order of SAID: here the first and the third agree before the first has a VALUE, and the second may be another one's.
        c.done("lin g = 1 2 3 'k', agree 1 3 q, agree 1 2 q; lin g = 1 2 3 'm', agree 1 2 q, agree 2 3 q, give 1 q;", 2);
        parses(c, 1, 1, "o a o k", "o a a k", "o o a k");
        parses(c, 1, 0, "o b a k", "a o b k");
        parses(c, 2, 1, "isb o o a m", "isa o o a m", "isb o o b m");
        parses(c, 2, 0, "isb o a o m", "isb a o a m");
    }

    // "give NUMBER FEATURE: the PHRASE has the VALUE of that argument, give V: that one; a later one takes the place"
    private static void givesOfEachArgument() {
        Check c = new Check("gives of each argument");
        c.done("kind n; kind s; kind z; fun x : > n; fun f : n n n n > s; fun h : s > z; tongue t; feature q = a b; feature r = d e; pattern p { = 1 };", 10);
        c.done("word x p 'o'; word x p 'a' has a d; word x p 'b' has b e; lin h = 'isa' 1[a]; lin h = 'isb' 1[b]; lin h = 'ise' 1[e];", 6);
        c.done("lin f = 1 2 3 4 'k', give 1 q; lin f = 1 2 3 4 'm', give 2 q, give 3 r; lin f = 4 3 2 1 'u', give 4 q, give d, give 1 r; lin f = 4 3 2 1 'v', give b, give a, give 4 q;", 4);
        parses(c, 2, 1, "isa a b b b k", "isb b a a a k", "isb a b a a m", "isa b a b b m", "ise a a b a m", "isa a b b b u", "ise a a a b u", "isa a b b b v", "isb b a a a v",
            "isa o b b b v", "isb o b b b v", "ise o a a o u");
        parses(c, 2, 0, "isb a b b b k", "isa b a a a k", "isa a b a a m", "ise b b a b m", "isb a b b b u", "ise b b b a u", "isb a b b b v");
    }

    // "without it has none"
    private static void withoutGiveItHasNone() {
        Check c = Check.full("without give");
        parses(c, 6, 1, "the big dog runs", "the big big dogs run", "the dogs run");
        parses(c, 6, 0, "the big dog run", "the big big dogs runs", "big dog run", "the dogs runs");
        c.done("kind q; fun emb : s > q; tongue en; lin emb = 'that' 1[sg]; lin emb = 'whether' 1[pl];", 5);
        // A s has no number, so it fits both.
        parses(c, 7, 1, "that dogs run", "whether dogs run", "that every dog runs", "whether every dog runs");
    }

    // FEATURES: the first one and the eighth are as good as the others, and all their VALUES.
    private static void theFirstAndTheLastFeature() {
        Check c = new Check("the first and the last feature");
        c.done("kind n; kind s; kind z; fun x : > n; fun f : n > s; fun g : n n > s; fun h : s > z; tongue t; pattern p { = 1 };", 9);
        for (int i = 0; i < 8; i++) {
            c.done("feature f" + i + " = a" + i + " b" + i + " c" + i + " d" + i + " e" + i + " g" + i + ";", 1);
        }
        c.done("word x p 'o'; word x p 'a' has a0 a7; word x p 'b' has b0 b7; word x p 'g' has g0 g1 g2 g3 g4 g5 g6 g7; word x p 'm' has a7;", 5);
        c.done("lin f = 1 'any'; lin f = 1[g0] 'g'; lin f = 1[g7] 'gg'; lin f = 1[b0 b7] 'bb', give 1 f0, give 1 f7;", 4);
        c.done("lin g = 1 2, agree 1 2 f0; lin g = 1 2 'k', agree 1 2 f7; lin g = 1 2 'q', give g0, give 2 f7, give a4;", 3);
        c.done("lin h = 'isa' 1[a0 a7]; lin h = 'isb' 1[b0 b7]; lin h = 'isg' 1[g0 g7]; lin h = 'isd' 1[g0 a7];", 4);
        parses(c, 1, 1, "o any", "a any", "b any", "g any", "o g", "g g", "g gg", "m g", "o bb", "b bb");
        parses(c, 1, 0, "a g", "a gg", "b gg", "m gg", "g bb", "a bb", "m bb");
        parses(c, 1, 1, "o g", "g g", "b b", "o m k", "g g k", "m a k", "m a", "b o k");
        parses(c, 1, 0, "a b", "b g", "a g k", "b m k", "g m k");
        // Without give, no FEATURE has a VALUE, the last one neither.
        parses(c, 2, 1, "isa g any", "isb g any", "isg a any", "isb o bb", "isg o g q", "isg a o q", "isd a m q", "isd b a q");
        parses(c, 2, 0, "isa o bb", "isg o bb", "isa a a q", "isg a m q", "isd a g q");
    }

    // "PHRASES of the same KIND, words and VALUES are one NODE with several WAYS"
    private static void oneNodeWithSeveralWays() {
        Check c = new Check("one node with several ways");
        c.done("kind n; kind s; fun x : > n; fun y : > n; fun f : n > s; fun g : n > s; tongue t; feature q = a b; pattern p { = 1, a = 1 };", 9);
        c.done("word x p 'o'; word y p 'o'; word y p 'm' has a; lin f = 1; lin f = 1, give 1 q; lin g = 1, give b;", 6);
        c.due("parse", parse(c, 1, "o"), 1);
        // n: none (x, y), a (x, y); s: none (f of both, the second lin of the first), a (the second lin of the second), b (g of both).
        c.due("nodes", c.x.count(0, 5), 5);
        c.due("ways", c.x.count(0, 6), 10);
        c.due("trees", c.x.trees(), 12);
        c.due("parse", parse(c, 1, "m"), 1);
        // Both CELLS have a: one NODE by two WAYS.
        c.due("nodes", c.x.count(0, 5), 4);
        c.due("ways", c.x.count(0, 6), 5);
        c.due("trees", c.x.trees(), 6);
        c.due("as n", parse(c, 0, "m"), 1);
        c.due("trees", c.x.trees(), 2);
    }

    // "of a LIN (the FUN's number, its LIN's number among the FUN's, where its arguments end ..)": the FUN's number is ahead of all
    private static void waysByFun() {
        Check c = new Check("ways by fun");
        c.done("kind n; kind m; kind s; fun p : m n > s; fun q : n m > s; fun x : > n; fun j : n n > m; tongue t; feature f = a b; pattern e { = 1 };", 10);
        // The second FUN has its LIN first, its first ITEM ends first, with a lesser VALUE.
        c.done("word x e 'o' has a; lin j = 1 2, give b; lin q = 1 2; lin p = 1 2;", 4);
        c.due("parse", parse(c, 2, "o o o"), 1);
        readings(c, 0, "p(j(x,x),x)", "q(x,j(x,x))");
        c.due("no more", c.x.price(2), -1);
    }

    // ".. its LIN's number among the FUN's ..": ahead of where its arguments end
    private static void waysByLin() {
        Check c = new Check("ways by lin");
        c.done("kind n; kind m; kind s; fun f : m n > s; fun x : > n; fun y : > n; fun z : > n; fun j : n n > m; tongue t; pattern e { = 1 };", 10);
        c.done("word x e 'a'; word y e 'b'; word z e 'c'; lin j = 1 2; lin f = 1 2; lin f = 2 1; lin f = 1 2;", 7);
        c.due("parse", parse(c, 2, "a b c"), 1);
        readings(c, 0, "f(j(x,y),z)", "f(j(y,z),x)", "f(j(x,y),z)");
        Check d = new Check("ways by lin, the other way round");
        d.done("kind n; kind m; kind s; fun f : m n > s; fun x : > n; fun y : > n; fun z : > n; fun j : n n > m; tongue t; pattern e { = 1 };", 10);
        d.done("word x e 'a'; word y e 'b'; word z e 'c'; lin j = 1 2; lin f = 2 1; lin f = 1 2; lin f = 2 1;", 7);
        d.due("parse", parse(d, 2, "a b c"), 1);
        // The second LIN comes behind the first and ahead of the third.
        readings(d, 0, "f(j(y,z),x)", "f(j(x,y),z)", "f(j(y,z),x)");
        Check e = new Check("lins of the same ends");
        e.done("kind n; kind s; fun f : n n > s; fun x : > n; fun y : > n; tongue t; pattern e { = 1 }; word x e 'a'; word y e 'b';", 9);
        e.done("lin f = 2 1; lin f = 1 2; lin f = 2 1 cost 1; lin f = 1 2 cost 1;", 4);
        e.due("parse", parse(e, 1, "a b"), 1);
        readings(e, 0, "f(y,x)", "f(x,y)", "f(y,x)", "f(x,y)");
    }

    // ".. where its arguments end, from the first ITEM on ..": ahead of their VALUES
    private static void waysByEnds() {
        Check c = new Check("ways by ends");
        c.done("kind n; kind s; fun w : n n > s; fun x : > n; fun t : n n > n; tongue g; feature f = a b; pattern p { = 1 }; word x p 'o' has b;", 9);
        c.done("lin t = 1 2, give a; lin w = 1 2;", 2);
        c.due("parse", parse(c, 1, "o o o"), 1);
        readings(c, 0, "w(x,t(x,x))", "w(t(x,x),x)");
        Check d = new Check("the first ITEM's end first");
        d.done("kind n; kind s; fun w : n n n > s; fun x : > n; fun t : n n > n; tongue g; pattern p { = 1 }; word x p 'o'; lin t = 1 2; lin w = 3 1 2;", 10);
        d.due("parse", parse(d, 1, "o o o o"), 1);
        // ITEMS are the third argument, the first, the second: ends 1 2 4, 1 3 4, 2 3 4.
        readings(d, 0, "w(x,t(x,x),x)", "w(t(x,x),x,x)", "w(x,x,t(x,x))");
        d.due("no more", d.x.price(3), -1);
    }

    // ".. then their VALUES, FEATURE by FEATURE, from the first ITEM on"
    private static void waysByValues() {
        Check c = new Check("ways by values");
        c.done("kind n; kind s; fun w : n n > s; fun a : > n; fun b : > n; fun d : > n; tongue t; feature f = v1 v2 v3; pattern p { = 1 }; lin w = 1 2;", 10);
        c.done("word d p 'o' has v3; word a p 'o' has v1; word b p 'o' has v2;", 3);
        c.due("parse", parse(c, 1, "o o"), 1);
        readings(c, 0, "w(a,a)", "w(a,b)", "w(a,d)", "w(b,a)", "w(b,b)", "w(b,d)", "w(d,a)", "w(d,b)", "w(d,d)");
        Check e = new Check("three by values");
        e.done("kind n; kind s; fun w : n n n > s; fun a : > n; fun b : > n; fun d : > n; tongue t; feature f = v1 v2 v3; pattern p { = 1 }; lin w = 2 3 1;", 10);
        e.done("word b p 'o' has v2; word d p 'o' has v3; word a p 'o';", 3);
        e.due("parse", parse(e, 1, "o o o"), 1);
        e.due("trees", e.x.trees(), 27);
        readings(e, 0, "w(a,a,a)", "w(b,a,a)", "w(d,a,a)", "w(a,a,b)", "w(b,a,b)", "w(d,a,b)", "w(a,a,d)", "w(b,a,d)", "w(d,a,d)", "w(a,b,a)");
        readings(e, 15, "w(a,b,d)");
    }

    private static void waysByFeatures() {
        Check c = new Check("ways by features");
        c.done("kind n; kind s; fun w : n > s; fun a : > n; fun b : > n; fun d : > n; fun e : > n; tongue t; feature f = v1 v2; feature g = u1 u2; pattern p { = 1 };", 11);
        c.done("word e p 'o' has v1 u1; word b p 'o' has u2; word d p 'o' has v1; word a p 'o' has u1; word a p 'm' has v2; word b p 'm' has u2; lin w = 1;", 7);
        c.due("parse", parse(c, 1, "o"), 1);
        readings(c, 0, "w(a)", "w(b)", "w(d)", "w(e)");
        c.due("parse as n", parse(c, 0, "o"), 1);
        readings(c, 0, "a", "b", "d", "e");
        c.due("parse", parse(c, 1, "m"), 1);
        readings(c, 0, "w(b)", "w(a)");
    }

    // "The first 16 are told."
    private static void sixteenOfOneArgument() {
        Check c = new Check("sixteen of one argument");
        c.done("kind n; kind m; kind s; fun f : n > m; fun g : m > s; tongue t; pattern p { = 1 };", 7);
        for (int i = 0; i < 18; i++) {
            c.done("fun x" + i + ":>n; word x" + i + " p 'o' cost " + (17 - i) + ";", 2);
        }
        c.done("lin f = 1; lin g = 1;", 2);
        for (int kind = 0; kind < 3; kind++) {
            c.due("parse", parse(c, kind, "o"), 1);
            c.due("trees", c.x.trees(), 18);
            c.due("the first", c.x.price(0), 0);
            c.due("the fifteenth", c.x.price(14), 14);
            c.due("the sixteenth", c.x.price(15), 15);
            c.due("no seventeenth", c.x.price(16), -1);
            c.due("no seventeenth", c.x.reading(16, 1), -1);
        }
        readings(c, 14, "g(f(x3))", "g(f(x2))");
        // Without the cheapest two, the last two are told.
        c.due("bar", c.x.bar(19, true), 17);
        c.due("bar", c.x.bar(18, true), 16);
        readings(c, 14, "g(f(x1))", "g(f(x0))");
        c.due("the sixteenth", c.x.price(15), 17);
        c.due("bar", c.x.bar(2, true), 15);
        c.due("the fifteenth", c.x.price(14), 16);
        c.due("no sixteenth", c.x.price(15), -1);
    }

    private static void sixteenOfTwoArguments() {
        Check c = new Check("sixteen of two arguments");
        c.done("kind n; kind m; kind s; fun f : n m > s; fun y : > m; fun z : > m cost 16; tongue t; pattern p { = 1 }; lin f = 2 1;", 9);
        for (int i = 0; i < 16; i++) {
            c.done("fun x" + i + ":>n; word x" + i + " p 'o' cost " + i + ";", 2);
        }
        c.done("word y p 'y'; word z p 'y'; word y p 'u' cost 1; word z p 'u';", 4);
        c.due("parse", parse(c, 2, "y o"), 1);
        c.due("trees", c.x.trees(), 32);
        for (int i = 0; i < 16; i++) {
            c.due("price " + i, c.x.price(i), i);
        }
        readings(c, 15, "f(x15,y)");
        c.due("bar y", c.x.bar(1, true), 16);
        readings(c, 15, "f(x15,z)");
        c.due("price", c.x.price(15), 31);
        c.due("parse", parse(c, 2, "u o"), 1);
        readings(c, 14, "f(x14,y)", "f(x15,y)");
        c.due("price", c.x.price(15), 16);
    }

    // "READINGS are ranked by price, then by the NODE (of the whole), then by the WAY, then by the ranks of what its arguments are"
    private static void priceThenNode() {
        Check c = new Check("price, then node");
        c.done("kind n; kind s; fun f : n > s; fun e : n > s; fun x : > n; fun y : > n cost 1; fun w : > s cost 1; tongue t; feature q = a b; pattern p { = 1 };", 10);
        c.done("word y p 'o'; word x p 'o'; word w p 'o' has a; lin e = 1, give b; lin f = 1, give a; lin f = 1; lin e = 1 cost 1;", 7);
        c.due("parse", parse(c, 1, "o"), 1);
        // Price 0: none f(x), a f(x), b e(x); price 1: none f(y), e(x); a w, f(y); b e(y); price 2: none e(y).
        readings(c, 0, "f(x)", "f(x)", "e(x)", "f(y)", "e(x)", "w", "f(y)", "e(y)", "e(y)");
        int[] prices = {0, 0, 0, 1, 1, 1, 1, 1, 2, -1};
        for (int i = 0; i < prices.length; i++) {
            c.due("price " + i, c.x.price(i), prices[i]);
        }
        Check e = new Check("many nodes");
        e.done("kind n; kind s; fun r : n s > s; fun f : n > s; fun x : > n; fun y : > n; tongue t; feature q = a b c d; pattern p { = 1 };", 9);
        e.done("word x p 'o' has d; word y p 'o' has b; lin f = 1, give 1 q; lin r = 1 2, give 1 q;", 4);
        for (int n = 2; n <= 12; n += 2) {
            c.due("parse", parse(e, 1, Check.times("o ", n)), 1);
            String rest = Check.times("r(y,", n - 2) + "f(y)" + Check.times(")", n - 2);
            readings(e, 0, "r(y," + rest + ")");
            e.due("nodes", e.x.count(0, 5), n * 2 + n * (n + 1));
        }
        c.due("parse", parse(e, 1, "o o o o"), 1);
        // Those of the NODE with b come first, then those with d.
        readings(e, 7, "r(y,r(x,r(x,f(x))))", "r(x,r(y,r(y,f(y))))");
        Check d = new Check("the first ITEM's rank first");
        d.done("kind n; kind s; fun w : n n > s; fun x : > n; fun y : > n; tongue t; pattern p { = 1 }; word y p 'o'; word x p 'o'; lin w = 2 1;", 10);
        d.due("parse", parse(d, 1, "o o"), 1);
        readings(d, 0, "w(y,y)", "w(x,y)", "w(y,x)", "w(x,x)");
    }

    // "More than 3000 NODES, 9000 WAYS (of all words together ..) or 400000 TRIES ..: -1" (ForestTest has the very numbers, of words)
    private static void tooManyWays() {
        Check c = new Check("too many ways");
        c.done("kind s; fun x : > s; fun y : s s > s; tongue g; pattern p { = 1 }; word x p 'o'; lin y = 1 2; lin y = 1 2; lin y = 2 1;", 9);
        // Of n words: n, and three WAYS for each two arguments of each row of words.
        c.due("24 words by three lins", parse(c, 0, Check.times("o ", 24)), 1);
        c.due("ways", c.x.count(0, 6), 24 + 3 * 2300);
        c.done("lin y = 2 1;", 1);
        c.due("23 words by four lins", parse(c, 0, Check.times("o ", 23)), 1);
        c.due("ways", c.x.count(0, 6), 23 + 4 * 2024);
        c.due("24 words by four lins are 9224 ways", parse(c, 0, Check.times("o ", 24)), -1);
        c.due("ways", c.x.count(0, 6), 0);
        c.due("nodes", c.x.count(0, 5), 0);
        c.due("trees", c.x.trees(), 0);
        c.due("as a kind that it is not, too", parse(c, 0, Check.times("o ", 23) + "u"), 0);
        c.due("ways", c.x.count(0, 6), 23 + 4 * 2024);
        c.tape(Check.times("o ", 24));
        c.due("swap", c.x.swap(0, 0, 0), -1);
        c.due("trees", c.x.trees(), 0);
    }

    // A LIN over all 24 words has its arguments over any of them.
    private static void overAllWords() {
        Check c = new Check("over all words");
        c.done("kind n; kind m; kind s; fun x : > n; fun y : > n; fun big : n m > m; fun one : n > m; fun w : n n m > s; fun v : m n n > s; fun all : n n > n; tongue t;", 11);
        c.done("pattern p { = 1 }; word x p 'o'; word y p 'u'; lin big = 1 2; lin one = 1; lin w = 1 2 3; lin v = 1 2 3; lin all = 'q' 1 2 'q';", 8);
        for (int n = 3; n <= 24; n += 3) {
            c.due("parse", parse(c, 2, "o u " + Check.times("o ", n - 2)), 1);
            c.due("trees", c.x.trees(), 2);
            c.due("the first", c.x.reading(0, 0), n * 2 - 1);
            c.due("one of them is of v", c.x.bar(5, true), 1);
            c.due("the other is of w", c.x.bar(4, true), 0);
        }
    }

    // parse: "1 if there is a TREE, 0, -1; THE FOREST is that (none, if it was not 1)"
    private static void oneOrNone() {
        Check c = Check.full("one or none");
        c.due("parse", parse(c, 6, "dogs run"), 1);
        c.due("trees", c.x.trees(), 1);
        c.due("parse of more", parse(c, 6, "dogs run run"), 0);
        c.due("trees", c.x.trees(), 0);
        c.due("price", c.x.price(0), -1);
        c.due("reading", c.x.reading(0, 0), -1);
        c.due("bar", c.x.bar(0, true), 0);
        c.due("parse of a part", parse(c, 6, "run"), 0);
        c.due("as what it is", parse(c, 5, "run"), 1);
        c.due("as what it is, too", parse(c, 3, "run"), 1);
        c.due("unknown words", parse(c, 6, "zebras run"), 0);
        c.due("nodes of the other word", c.x.count(0, 5), 2);
    }

    // The same after READINGS were looked at: none of them is left.
    private static void noForestIsLeft() {
        Check c = Check.full("no forest is left");
        c.done("tongue en; lin and2 = 1 2; lin and2 = 2 1; lin and2 = 1 2 cost 1; fun and3 : np np > np; lin and3 = 1 2; tongue es;", 7);
        Check.Call[] calls = {() -> c.x.parse(0, 6), () -> c.x.swap(0, 6, 1), () -> c.x.mend(0, 6)};
        String[] texts = {"?", "zebra", ""};
        int[][] due = {{-3, 0, -3}, {-3, 0, -3}, {-3, -1, -3}};
        for (int i = 0; i < calls.length; i++) {
            for (int k = 0; k < texts.length; k++) {
                c.due("parse", parse(c, 6, "dogs run"), 1);
                c.due("trees", c.x.trees(), 1);
                c.due("price", c.x.price(0), 3);
                c.tape(texts[k]);
                c.due("call " + i + " of " + texts[k], calls[i].answer(), due[i][k]);
                c.due("no trees", c.x.trees(), 0);
                c.due("no price", c.x.price(0), -1);
                c.due("no reading", c.x.reading(0, 0), -1);
                c.due("no trees", c.x.bar(0, false), 0);
            }
        }
        c.due("parse", parse(c, 6, "dogs run"), 1);
        c.due("price", c.x.price(0), 3);
        c.due("too many ways", parse(c, 4, Check.times("dogs ", 24)), -1);
        c.due("no trees", c.x.trees(), 0);
        c.due("no price", c.x.price(0), -1);
        // What throws leaves it.
        c.due("parse", parse(c, 6, "dogs run"), 1);
        c.refuses("parse", () -> c.x.parse(0, 7));
        c.refuses("swap", () -> c.x.swap(0, 6, 2));
        c.refuses("mend", () -> c.x.mend(2, 6));
        c.due("trees", c.x.trees(), 1);
        c.due("price", c.x.price(0), 3);
    }

    // A forest after a greater one has its own TREES alone.
    private static void aSmallerForest() {
        Check c = new Check("a smaller forest");
        c.done("kind s; fun x : > s; fun z : > s cost 1; fun y : s s > s; tongue g; pattern p { = 1 }; word x p 'o'; word z p 'o'; word x p 'm'; lin y = 1 2;", 10);
        for (int n = 6; n > 0; n--) {
            c.due("parse", parse(c, 0, Check.times("o ", n)), 1);
            c.due("the first", c.x.price(0), 0);
            c.due("trees", c.x.trees(), new int[] {2, 4, 16, 80, 448, 2688}[n - 1]);
        }
        readings(c, 0, "x", "z");
        c.due("no more", c.x.price(2), -1);
        c.due("parse", parse(c, 0, "m m"), 1);
        readings(c, 0, "y(x,x)");
        c.due("no more", c.x.price(1), -1);
        c.due("parse", parse(c, 0, "m"), 1);
        readings(c, 0, "x");
        c.due("no more", c.x.price(1), -1);
    }

    // trees: "(at most 1000000000000000000 is told)"
    private static void atMostSoManyTrees() {
        Check c = new Check("at most so many trees");
        c.done("kind n; kind s; fun x : > n; fun w : > n; fun y : n s > s; fun z : n > s; tongue g; pattern p { = 1 }; lin y = 1 2; lin z = 1;", 10);
        c.done(Check.times("word x p 'o';", 10) + Check.times("word x p 'm';", 9) + "word w p 'u';" + Check.times("word x p 'u';", 10), 30);
        c.due("17 words", parse(c, 1, Check.times("o ", 17)), 1);
        c.due("trees", c.x.trees(), 100000000000000000L);
        c.due("18 words", parse(c, 1, Check.times("o ", 18)), 1);
        c.due("trees, the very most", c.x.trees(), 1000000000000000000L);
        c.due("one less of one", parse(c, 1, "m " + Check.times("o ", 17)), 1);
        c.due("trees", c.x.trees(), 900000000000000000L);
        c.due("one less of another", parse(c, 1, Check.times("o ", 17) + "m"), 1);
        c.due("trees", c.x.trees(), 900000000000000000L);
        c.due("one more of one", parse(c, 1, "u " + Check.times("o ", 17)), 1);
        c.due("trees", c.x.trees(), 1000000000000000000L);
        c.due("without it", c.x.bar(1, true), 1000000000000000000L);
        c.due("19 words", parse(c, 1, Check.times("o ", 19)), 1);
        c.due("trees", c.x.trees(), 1000000000000000000L);
        c.due("24 words", parse(c, 1, Check.times("o ", 24)), 1);
        c.due("trees", c.x.trees(), 1000000000000000000L);
        c.due("none of them is left", c.x.bar(0, true), 0);
        c.due("all are", c.x.bar(0, false), 1000000000000000000L);
        c.due("price", c.x.price(15), 0);
        // A sum of two: 6 * 10^17 and as many again, and 4 * 10^17 twice.
        c.done("kind t; fun j : s > t; fun k : s > t; tongue g; lin j = 1; lin k = 1;" + Check.times("word x p 'v';", 6) + Check.times("word x p 'q';", 4), 16);
        c.due("parse", parse(c, 2, "v " + Check.times("o ", 17)), 1);
        c.due("trees", c.x.trees(), 1000000000000000000L);
        c.due("one of both", c.x.bar(4, true), 600000000000000000L);
        c.due("parse", parse(c, 2, "q " + Check.times("o ", 17)), 1);
        c.due("trees", c.x.trees(), 800000000000000000L);
    }

    // bar: "FUN is barred (or not any more) in THE FOREST: how many TREES are left without barred ones; READINGS are these."
    private static void barred() {
        Check c = new Check("barred");
        c.done("kind n; kind s; fun x : > n; fun y : > n cost 1; fun f : n n > s; fun g : n n > s cost 5; fun u : > n; tongue t; pattern p { = 1 };", 9);
        c.done("word x p 'o'; word y p 'o'; lin f = 1 2; lin g = 1 2;", 4);
        c.due("parse", parse(c, 1, "o o"), 1);
        c.due("trees", c.x.trees(), 8);
        c.due("bar one that is not in it", c.x.bar(4, true), 8);
        c.due("bar x", c.x.bar(0, true), 2);
        readings(c, 0, "f(y,y)", "g(y,y)");
        c.due("no more", c.x.price(2), -1);
        c.due("bar it again", c.x.bar(0, true), 2);
        c.due("bar f, too", c.x.bar(2, true), 1);
        readings(c, 0, "g(y,y)");
        c.due("price", c.x.price(0), 7);
        c.due("bar y, too", c.x.bar(1, true), 0);
        c.due("trees", c.x.trees(), 0);
        c.due("no price", c.x.price(0), -1);
        c.due("x not any more", c.x.bar(0, false), 1);
        readings(c, 0, "g(x,x)");
        c.due("y not any more", c.x.bar(1, false), 4);
        c.due("f not any more", c.x.bar(2, false), 8);
        c.due("what was not barred", c.x.bar(3, false), 8);
        c.due("price", c.x.price(7), 7);
        c.refuses("no such fun", () -> c.x.bar(5, true));
        c.refuses("no such fun", () -> c.x.bar(-1, true));
        c.refuses("no such fun", () -> c.x.bar(5, false));
        c.due("trees", c.x.trees(), 8);
    }

    // "(A parse bars none.)"
    private static void barsOfAParse() {
        Check c = Check.full("bars of a parse");
        c.due("bar without a forest", c.x.bar(0, true), 0);
        c.due("parse", parse(c, 6, "dogs run"), 1);
        c.due("trees", c.x.trees(), 1);
        c.due("bar", c.x.bar(0, true), 0);
        c.due("parse", parse(c, 6, "dogs run"), 1);
        c.due("trees", c.x.trees(), 1);
        c.due("price", c.x.price(0), 3);
        c.x.bar(0, true);
        c.tape("dogs run");
        c.due("swap", c.x.swap(0, 6, 1), 1);
        c.due("trees", c.x.trees(), 1);
        c.x.bar(0, true);
        c.tape("dogs run");
        c.due("mend", c.x.mend(0, 6), 0);
        c.due("trees", c.x.trees(), 1);
        c.x.bar(0, true);
        c.tape("dog run");
        c.due("mend", c.x.mend(0, 6), 1);
        c.due("trees", c.x.trees(), 1);
        c.x.bar(0, true);
        c.due("no forest", parse(c, 6, "dogs"), 0);
        c.due("bar", c.x.bar(6, true), 0);
        c.due("parse", parse(c, 6, "dogs run"), 1);
        c.due("trees", c.x.trees(), 1);
        c.x.bar(0, true);
        c.refuses("what throws", () -> c.x.parse(0, 7));
        c.due("is no parse", c.x.trees(), 0);
    }

    // price: "-1 if there is none (or i is not 0 to 15)"
    private static void pricesOfReadings() {
        Check c = new Check("prices of readings");
        c.done("kind n; fun x : > n; tongue t; pattern p { = 1 };" + row(1, 15) + row(15, 21), 24);
        c.due("parse", parse(c, 0, "o"), 1);
        c.due("trees", c.x.trees(), 20);
        c.due("price -1", c.x.price(-1), -1);
        for (int i = 0; i < 16; i++) {
            c.due("price " + i, c.x.price(i), i + 1);
        }
        c.due("price 16", c.x.price(16), -1);
        c.due("price 17", c.x.price(17), -1);
        c.due("reading 15", c.x.reading(15, 7), 1);
        c.due("reading 16", c.x.reading(16, 7), -1);
        c.due("reading -1", c.x.reading(-1, 7), -1);
        c.due("parse", parse(c, 0, "a"), 0);
        c.due("price 0", c.x.price(0), -1);
    }

    private static String row(int from, int to) {
        StringBuilder all = new StringBuilder();
        for (int i = from; i < to; i++) {
            all.append("word x p 'o' cost " + i + ";");
        }
        return all.toString();
    }

    // reading: "its FUNS; -1 if there is none, -2 if it has more than 60"
    private static void sixtyFuns() {
        Check c = new Check("sixty funs");
        c.done("kind a; kind b; kind c; kind s; kind y; kind z; fun x : > a; fun p : a > b; fun q : b > c; fun t : c c > s; fun v : s c > s; fun e : s > y; fun f : y > z; tongue g;", 14);
        c.done("pattern r { = 1 }; word x r 'o'; lin p = 1; lin q = 1; lin t = 1 2; lin v = 1 2; lin e = 1; lin f = 1;", 8);
        // 15 words: 3 FUNS each, a t, and 13 times v: 59.
        String fifteen = Check.times("o ", 15);
        c.due("59 funs", parse(c, 3, fifteen), 1);
        c.due("reading", c.x.reading(0, 2), 59);
        c.due("60 funs", parse(c, 4, fifteen), 1);
        c.due("reading", c.x.reading(0, 3), 60);
        c.due("show", c.x.show(3), c.x.show(2) + 3);
        c.due("61 funs", parse(c, 5, fifteen), 1);
        c.due("reading to a place that has one", c.x.reading(0, 3), -2);
        c.due("reading to a place that has none", c.x.reading(0, 4), -2);
        c.due("it has none still", c.x.show(4), -1);
        c.due("it has the old one still", c.x.show(3), c.x.show(2) + 3);
        c.due("there is one", c.x.trees(), 1);
        c.due("and it has a price", c.x.price(0), 0);
        c.due("no second one", c.x.reading(1, 3), -1);
        c.due("no second one", c.x.price(1), -1);
        c.due("24 words", parse(c, 5, Check.times("o ", 24)), 1);
        c.due("97 funs", c.x.reading(0, 3), -2);
    }

    // reading: "IllegalArgumentException: no such place (so in all)"
    private static void noSuchPlace() {
        Check c = Check.full("no such place");
        c.due("parse", parse(c, 6, "dogs run"), 1);
        for (int place = 0; place < 8; place++) {
            c.due("reading to " + place, c.x.reading(0, place), 5);
            c.due("show " + place, c.x.show(place), 23);
        }
        for (int place : new int[] {-1, 8}) {
            c.refuses("reading", () -> c.x.reading(0, place));
            c.refuses("reading of none", () -> c.x.reading(16, place));
        }
        c.due("same", c.x.same(0, 7) ? 1 : 0, 1);
        c.due("parse", parse(c, 6, "cats run"), 1);
        c.due("reading", c.x.reading(0, 0), 5);
        c.gives("the others are as they were", c.x.show(1), "pred(bare(dog),iv(run))");
        c.gives("this one is new", c.x.show(0), "pred(bare(cat),iv(run))");
    }
}
