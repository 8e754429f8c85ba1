/** Promises 14 (parse), 15 (trees), 16 (bar), 17 (price), 18 (reading) and NODES and WAYS of 31 (count). */
public final class ForestTest {
    public static void main(String[] args) {
        sentences();
        agreement();
        agreementInOrder();
        gives();
        nodesAndWays();
        barred();
        rankedByWay();
        rankedByValues();
        rankedByEndsThenValues();
        rankedByWordsFirst();
        rankedOverNodes();
        rankedByArguments();
        sixteenAreTold();
        longReadings();
        manyTrees();
        limits();
        aForestStays();
        Check.finish();
    }

    private static int parse(Check c, int kind, String sentence) {
        c.tape(sentence);
        return c.x.parse(0, kind);
    }

    private static void reading(Check c, int i, int cost, String tree) {
        c.due("price " + i, c.x.price(i), cost);
        c.due("funs of reading " + i, c.x.reading(i, 0), tree.split("[(,]").length);
        c.gives("reading " + i, c.x.show(0), tree);
    }

    private static void none(Check c) {
        c.due("trees of none", c.x.trees(), 0);
        c.due("price of none", c.x.price(0), -1);
        c.due("reading of none", c.x.reading(0, 7), -1);
        c.due("bar of none", c.x.bar(0, true), 0);
    }

    private static void sentences() {
        Check c = Check.full("sentences");
        c.due("parse", parse(c, 6, "the dog sees the big cats"), 1);
        c.due("trees", c.x.trees(), 1);
        reading(c, 0, 3, "pred(det(the,dog),tv(see,det(the,mod(big,cat))))");
        c.due("price 1", c.x.price(1), -1);
        c.due("reading 1", c.x.reading(1, 0), -1);
        c.gives("the place is as it was", c.x.show(0), "pred(det(the,dog),tv(see,det(the,mod(big,cat))))");
        c.refuses("parse of no tongue", () -> c.x.parse(2, 6));
        c.refuses("parse of no kind", () -> c.x.parse(0, 7));
        c.refuses("place 8", () -> c.x.reading(0, 8));
        c.refuses("place -1", () -> c.x.reading(9, -1));
        c.refuses("bar 15", () -> c.x.bar(15, true));
        c.refuses("bar -1", () -> c.x.bar(-1, false));
        c.due("what throws leaves the forest", c.x.trees(), 1);
        c.due("as another kind", parse(c, 5, "the dog sees the big cats"), 0);
        none(c);
        c.due("nodes are told of a sentence without a tree", c.x.count(0, 5) > 0 ? 1 : 0, 1);
        c.due("more blanks", parse(c, 6, "the   dog runs"), 1);
        for (String bad : new String[] {"", "   ", "the dog, runs", "the Dog runs", "the 1", Check.times("a", 25)}) {
            parse(c, 6, "the dog runs");
            c.due("parse of '" + bad + "'", parse(c, 6, bad), -3);
            none(c);
            c.due("nodes", c.x.count(0, 5), 0);
            c.due("ways", c.x.count(0, 6), 0);
        }
        c.due("24 words", parse(c, 6, Check.times("the ", 23) + "dog"), 0);
        c.due("25 words", parse(c, 6, Check.times("the ", 24) + "dog"), -3);
        c.due("24 letters", parse(c, 6, Check.times("a", 24) + " runs"), 0);
    }

    private static void agreement() {
        Check c = Check.full("agreement");
        c.due("sg with sg", parse(c, 6, "the dog runs"), 1);
        c.due("sg with pl", parse(c, 6, "the dog run"), 0);
        c.due("pl with sg", parse(c, 6, "the dogs runs"), 0);
        c.due("every is sg", parse(c, 6, "every dogs run"), 0);
        c.due("every with sg", parse(c, 6, "every dog runs"), 1);
        c.due("bare pl", parse(c, 6, "dogs run"), 1);
        c.due("bare sg", parse(c, 6, "dog runs"), 0);
        c.due("and gives pl", parse(c, 6, "the dog and the cat run"), 1);
        c.due("and is not sg", parse(c, 6, "the dog and the cat runs"), 0);
        c.due("letters must be there", parse(c, 6, "the dog or the cat run"), 0);
    }

    private static void agreementInOrder() {
        Check c = new Check("agree in order");
        c.done("kind n; kind s; fun x : > n; fun y : > n; fun t : n n n > s; fun u : n n n > s; tongue g; feature f = a b; pattern p { = 1 };", 9);
        c.done("word x p 'a' has a; word x p 'b' has b; word y p 'o';", 3);
        // The second has none: it has the first one's when the third one comes to it.
        c.done("lin t = 1 2 3, give 2 f, agree 1 2 f, agree 2 3 f, give 3 f, give 2 f;", 1);
        c.due("a o a", parse(c, 1, "a o a"), 1);
        c.due("a o b", parse(c, 1, "a o b"), 0);
        c.due("o o a", parse(c, 1, "o o a"), 1);
        c.due("b o o", parse(c, 1, "b o o"), 1);
        c.due("o o o", parse(c, 1, "o o o"), 1);
        // Here the first two agree before the second has a VALUE, which is not looked at again.
        c.done("lin u = 1 2 'x' 3, agree 1 2 f, agree 2 3 f, agree 1 3 f;", 1);
        c.due("o o x a", parse(c, 1, "o o x a"), 1);
        c.due("a o x b", parse(c, 1, "a o x b"), 0);
        c.done("fun v : s n > s; lin v = 1[a] 'y' 2;", 2);
        c.due("a VALUE in [ ] that it has", parse(c, 1, "a o o y o"), 1);
        c.due("another VALUE", parse(c, 1, "b o o y o"), 0);
        c.due("none, so it has that one", parse(c, 1, "o o o y o"), 1);
    }

    private static void gives() {
        Check c = new Check("gives");
        c.done("kind n; kind s; kind q; fun x : > n; fun w : n > s; fun k : s > q; tongue g; feature f = a b; feature h = c d; pattern p { = 1 };", 10);
        c.done("word x p 'm' has a c; lin w = 1 'one', give 1 f; lin w = 1 'two', give 1 f, give b; lin w = 1[d] 'not', give 1 h;", 4);
        c.done("lin w = 'six' 1, give b, give 1 f; lin k = 'is' 1[b]; lin k = 'has' 1[d];", 3);
        c.due("gives a", parse(c, 2, "is m one"), 0);
        c.due("a later one takes the place", parse(c, 2, "is m two"), 1);
        c.due("a later one takes the place again", parse(c, 2, "is six m"), 0);
        c.due("without give it has none", parse(c, 2, "has m one"), 1);
        c.due("a need that is not met", parse(c, 1, "m not"), 0);
        // A give of an argument without a VALUE takes it away again.
        c.done("fun z : > n; word z p 'z'; fun o : n > s; lin o = 1 'off', give b, give 1 f; lin o = 1 'on', give 1 f, give b;", 5);
        c.done("fun j : s > q; lin j = 'no' 1[a];", 2);
        c.due("none, so a fits", parse(c, 2, "no z off"), 1);
        c.due("b, so a does not", parse(c, 2, "no z on"), 0);
    }

    private static void nodesAndWays() {
        Check c = new Check("nodes and ways");
        c.done("kind n; kind s; fun x : > n; fun y : > n; fun two : n n > n; fun up : n > s; tongue g; feature f = a b; pattern p { a = 1, b = 1 };", 9);
        c.done("word x p 'o'; word y p 'o'; lin two = 1 2, agree 1 2 f, give 1 f; lin up = 1;", 4);
        c.due("parse", parse(c, 1, "o o"), 1);
        // Each word: n with a, n with b (two WAYS each), s without (two WAYS). Both: n with a, n with b, s.
        c.due("nodes", c.x.count(0, 5), 9);
        c.due("ways", c.x.count(0, 6), 16);
        c.due("trees", c.x.trees(), 8);
        c.due("as n", parse(c, 0, "o o"), 1);
        c.due("nodes", c.x.count(0, 5), 9);
        c.due("trees", c.x.trees(), 8);
        c.due("bar changes no node", c.x.bar(0, true), 2);
        c.due("nodes", c.x.count(0, 5), 9);
    }

    private static void barred() {
        Check c = Check.full("bar");
        c.due("parse", parse(c, 6, "dogs and cats and dogs and cats run"), 1);
        c.due("trees", c.x.trees(), 5);
        c.due("bar see", c.x.bar(7, true), 5);
        c.due("bar and2", c.x.bar(14, true), 0);
        c.due("trees", c.x.trees(), 0);
        c.due("price", c.x.price(0), -1);
        c.due("reading", c.x.reading(0, 0), -1);
        c.due("and2 is not barred any more", c.x.bar(14, false), 5);
        c.due("price", c.x.price(0), 17);
        c.x.bar(14, true);
        c.due("a parse bars none", parse(c, 6, "dogs and cats run"), 1);
        c.due("trees", c.x.trees(), 1);
        c.done("fun duck : > n cost 1; tongue en; word duck reg 'dog';", 3);
        parse(c, 6, "the dog runs");
        c.due("trees of two words", c.x.trees(), 2);
        reading(c, 1, 1, "pred(det(the,duck),iv(run))");
        c.due("bar dog", c.x.bar(0, true), 1);
        reading(c, 0, 1, "pred(det(the,duck),iv(run))");
        c.due("price 1", c.x.price(1), -1);
        c.due("bar of a fun that is younger than the parse", c.x.bar(15, true), 0);
    }

    private static void rankedByWay() {
        Check c = new Check("ranked by way");
        c.done("kind n; kind s; fun f : n > s; fun w : > s; fun e : n > s; fun x : > n; fun y : > n; tongue g; pattern p { = 1, = 1 };", 9);
        c.done("feature k = a b; pattern q { a = 1, b = 2 }; lin e = 1; lin f = 1; lin f = 1 cost 1; lin f = 1;", 6);
        c.done("word y p 'o'; word x p 'o'; word w p 'o' cost 1; word y p 'o' cost 1;", 4);
        c.due("parse", parse(c, 1, "o"), 1);
        // The FUN's number comes first, then the LIN's among the FUN's, then the rank of the argument: y was the first WORD.
        String[] free = {"f(y)", "f(x)", "f(y)", "f(x)", "e(y)", "e(x)"};
        for (int i = 0; i < free.length; i++) {
            reading(c, i, 0, free[i]);
        }
        // Of price 1: the WORD w, then f by its first LIN with the dear y, by the second with the cheap ones, and so on.
        String[] one = {"w", "f(y)", "f(y)", "f(x)", "f(y)", "e(y)"};
        for (int i = 0; i < one.length; i++) {
            reading(c, free.length + i, 1, one[i]);
        }
        reading(c, 12, 2, "f(y)");
        c.due("price 13", c.x.price(13), -1);
        c.due("trees", c.x.trees(), 13);
    }

    private static void rankedByValues() {
        Check c = new Check("ranked by values");
        c.done("kind s; fun x : > s; fun y : > s; fun z : > s; fun w : > s; tongue g; feature f = a b; feature h = c d; pattern p { = 1 };", 9);
        c.done("word x p 'o' has b; word y p 'o' has a d; word z p 'o' has d; word w p 'o'; word x p 'o' has a;", 5);
        c.due("parse", parse(c, 0, "o"), 1);
        // VALUES: none, then h alone, then a without h, a with d, b.
        String[] order = {"w", "z", "x", "y", "x"};
        for (int i = 0; i < order.length; i++) {
            reading(c, i, 0, order[i]);
        }
        c.done("word w p 'o' has b d cost 3; word w p 'm' has b d; word z p 'm' has b;", 3);
        parse(c, 0, "m");
        reading(c, 0, 0, "z");
        reading(c, 1, 0, "w");
    }

    private static void rankedByEndsThenValues() {
        Check c = new Check("ranked by ends, then values");
        c.done("kind n; kind s; fun x : > n; fun y : > n; fun t : n n > n; fun w : n n n > s; tongue g; feature f = a b; pattern p { = 1 };", 9);
        c.done("word x p 'o' has b; word y p 'o' has a; lin t = 1 2, give 1 f; lin w = 1 2 3;", 4);
        c.due("parse", parse(c, 1, "o o o"), 1);
        // All ends are the same: then the VALUES of the first argument, the second, the third.
        String[] order = {"w(y,y,y)", "w(y,y,x)", "w(y,x,y)", "w(y,x,x)", "w(x,y,y)", "w(x,y,x)", "w(x,x,y)", "w(x,x,x)"};
        for (int i = 0; i < order.length; i++) {
            reading(c, i, 0, order[i]);
        }
        c.due("parse", parse(c, 1, "o o o o"), 1);
        c.due("trees", c.x.trees(), 48);
        // The first argument ends first at 1 and the second at 2; the VALUES of the third are that of its own first word.
        reading(c, 0, 0, "w(y,y,t(y,y))");
        reading(c, 1, 0, "w(y,y,t(y,x))");
        reading(c, 2, 0, "w(y,y,t(x,y))");
        reading(c, 4, 0, "w(y,x,t(y,y))");
        reading(c, 15, 0, "w(x,x,t(x,x))");
        c.due("price 16", c.x.price(16), -1);
        // ITEMS count in their order, not the arguments' own.
        c.done("fun v : n n > s; lin v = 2 1;", 2);
        parse(c, 1, "o o");
        String[] turned = {"v(y,y)", "v(x,y)", "v(y,x)", "v(x,x)"};
        for (int i = 0; i < turned.length; i++) {
            reading(c, i, 0, turned[i]);
        }
    }

    private static void rankedByWordsFirst() {
        Check c = new Check("words first");
        c.done("kind n; kind s; fun up : n > s; fun x : > n; fun w : > s; tongue g; feature f = a b; pattern p { = 1, a = 2, b = 1 };", 8);
        c.done("word w p 'o'; word x p 'o'; lin up = 1, give 1 f;", 3);
        c.due("parse", parse(c, 1, "o"), 1);
        String[] order = {"w", "up(x)", "w", "up(x)"};
        for (int i = 0; i < order.length; i++) {
            reading(c, i, 0, order[i]);
        }
        // VALUES that come late in the making of the NODES come first all the same.
        c.done("fun t : n n > s; fun y : > n; fun z : > n; word z p 'm' has a; word y p 'm'; lin t = 1 2;", 6);
        c.due("parse", parse(c, 1, "m m"), 1);
        c.due("trees", c.x.trees(), 16);
        reading(c, 0, 0, "t(y,y)");
        reading(c, 1, 0, "t(y,z)");
        reading(c, 2, 0, "t(y,z)");
        reading(c, 3, 0, "t(y,y)");
        reading(c, 4, 0, "t(z,y)");
        reading(c, 15, 0, "t(y,y)");
    }

    private static void rankedOverNodes() {
        Check c = new Check("ranked over nodes");
        c.done("kind s; fun x : > s; tongue g; feature f = a1 a2 a3 a4 a5 a6; pattern p { a6 = 1, a5 = 1, a4 = 1, a3 = 1, a2 = 1, a1 = 1 };", 5);
        for (int i = 0; i < 4; i++) {
            c.done("fun y" + i + " : > s; word y" + i + " p 'o' cost " + (4 - i) + ";", 2);
        }
        c.due("parse", parse(c, 0, "o"), 1);
        c.due("trees", c.x.trees(), 24);
        // The dearest came first; six of each price, by their VALUES, and 16 of them in all.
        for (int i = 0; i < 16; i++) {
            reading(c, i, 1 + i / 6, "y" + (3 - i / 6));
        }
        c.due("price 16", c.x.price(16), -1);
        c.done("word x p 'm' has a1;", 1);
        c.done("pattern q { a1 = 1 }; pattern r { a2 = 1 }; word y0 r 'u' cost 1; word y1 q 'u' cost 2; word y2 q 'u'; word y3 r 'u' cost 2;", 6);
        parse(c, 0, "u");
        reading(c, 0, 0, "y2");
        reading(c, 1, 1, "y0");
        reading(c, 2, 2, "y1");
        reading(c, 3, 2, "y3");
    }

    private static void rankedByArguments() {
        Check c = new Check("ranked by arguments");
        c.done("kind n; kind s; fun x : > n cost 1; fun y : > n; fun z : > n cost 1; fun w : n n > s; tongue g; pattern p { = 1 };", 8);
        c.done("word x p 'o'; word y p 'o'; word z p 'o'; lin w = 1 2 cost 2;", 4);
        c.due("parse", parse(c, 1, "o o"), 1);
        // The ranks of an argument: y, x, z.
        reading(c, 0, 2, "w(y,y)");
        reading(c, 1, 3, "w(y,x)");
        reading(c, 2, 3, "w(y,z)");
        reading(c, 3, 3, "w(x,y)");
        reading(c, 4, 3, "w(z,y)");
        reading(c, 5, 4, "w(x,x)");
        reading(c, 6, 4, "w(x,z)");
        reading(c, 7, 4, "w(z,x)");
        reading(c, 8, 4, "w(z,z)");
        c.due("price 9", c.x.price(9), -1);
    }

    private static void sixteenAreTold() {
        Check c = new Check("sixteen are told");
        c.done("kind n; kind s; fun x : > n; fun y : > n cost 1; fun w : n n n n > s; fun v : n n > n; tongue g; pattern p { = 1 };", 8);
        c.done("word x p 'o'; word y p 'o'; lin w = 1 2 3 4; lin v = 1 2 cost 9;", 4);
        c.due("parse", parse(c, 1, "o o o o"), 1);
        c.due("trees", c.x.trees(), 16);
        int[] prices = {0, 1, 1, 1, 1, 2, 2, 2, 2, 2, 2, 3, 3, 3, 3, 4};
        for (int i = 0; i < 16; i++) {
            c.due("price " + i, c.x.price(i), prices[i]);
        }
        c.due("price 16", c.x.price(16), -1);
        c.due("price -1", c.x.price(-1), -1);
        reading(c, 1, 1, "w(x,x,x,y)");
        reading(c, 4, 1, "w(y,x,x,x)");
        reading(c, 15, 4, "w(y,y,y,y)");
        c.due("parse of five", parse(c, 1, "o o o o o"), 1);
        c.due("trees", c.x.trees(), 128);
        reading(c, 0, 9, "w(x,x,x,v(x,x))");
        reading(c, 3, 9, "w(v(x,x),x,x,x)");
        // Of the next price, by where the arguments end: the first WAY has all four words of one letter first.
        reading(c, 4, 10, "w(x,x,x,v(x,y))");
        c.due("price 15", c.x.price(15), 10);
        c.due("price 16", c.x.price(16), -1);
        c.due("reading 16", c.x.reading(16, 0), -1);
        c.due("bar x", c.x.bar(0, true), 4);
        reading(c, 0, 14, "w(y,y,y,v(y,y))");
        c.due("price 4", c.x.price(4), -1);
    }

    private static void longReadings() {
        Check c = new Check("long readings");
        c.done("kind a; kind b; kind c; kind s; fun x : > a; fun p : a > b; fun q : b > c; fun t : c c > s; fun u : s s > s; fun v : s c > s; tongue g;", 11);
        c.done("pattern r { = 1 }; word x r 'o'; lin p = 1; lin q = 1; lin t = 1 2; lin u = 1 2; lin v = 1 2;", 7);
        // 15 words: 3 FUNS each, a t, and 13 times v.
        c.due("59 funs", parse(c, 3, Check.times("o ", 15)), 1);
        c.due("reading", c.x.reading(0, 3), 59);
        c.due("16 words", parse(c, 3, Check.times("o ", 16)), 1);
        c.due("63 funs", c.x.reading(0, 3), -2);
        c.due("price", c.x.price(0), 0);
        c.due("the place is as it was", c.x.show(3) > 0 ? 1 : 0, 1);
        c.done("kind z; fun end : s > z; tongue g; lin end = 1;", 4);
        c.due("60 funs", parse(c, 4, Check.times("o ", 15)), 1);
        c.due("reading", c.x.reading(0, 3), 60);
    }

    private static void manyTrees() {
        Check c = new Check("many trees");
        c.done("kind s; fun x : > s; fun y : s s > s; tongue g; pattern p { = 1 }; word x p 'o'; lin y = 1 2;", 7);
        c.due("24 words", parse(c, 0, Check.times("o ", 24)), 1);
        c.due("catalan 23", c.x.trees(), 343059613650L);
        c.due("nodes", c.x.count(0, 5), 300);
        c.due("ways", c.x.count(0, 6), 2324);
        c.done("word x p 'o'; word x p 'o';", 2);
        c.due("24 words of three", parse(c, 0, Check.times("o ", 24)), 1);
        c.due("too many to tell", c.x.trees(), 1000000000000000000L);
        c.due("price", c.x.price(15), 0);
        c.due("bar", c.x.bar(1, true), 0);
        c.due("no bar", c.x.bar(1, false), 1000000000000000000L);
        c.due("bar x", c.x.bar(0, true), 0);
    }

    /** Patterns p5, p10 .. with so many CELLS, all of them with the bare stem, that have VALUES of their own each. */
    private static void patternsOf(Check c, int... sizes) {
        c.done("feature f = a1 a2 a3 a4 a5 a6; feature g = b1 b2 b3 b4; feature h = c1 c2;", 3);
        int made = 0;
        String parent = "";
        for (int size : sizes) {
            StringBuilder cells = new StringBuilder();
            for (; made < size; made++) {
                cells.append(cells.length() == 0 ? "" : ", ");
                cells.append("a" + (made % 6 + 1) + " b" + (made / 6 + 1) + " = 1");
            }
            c.done("pattern p" + size + " " + parent + "{ " + cells + " };", 1);
            parent = "of p" + size + " ";
        }
    }

    private static void limits() {
        nodeLimit();
        wayLimit();
        tryLimit();
    }

    private static void nodeLimit() {
        Check c = new Check("limit of nodes");
        c.done("kind n; fun x : > n; tongue g;", 3);
        patternsOf(c, 2, 3, 24);
        // 24 * 5 and 5 more: 125 NODES of each o, and one more of each u.
        for (String has : new String[] {"", "has c1", "has c2"}) {
            c.done("word x p24 'o' " + has + "; word x p24 'u' " + has + ";", 2);
        }
        c.done("feature k = d1 d2 d3; word x p24 'o' has d1; word x p24 'o' has d2; word x p24 'u' has d1; word x p24 'u' has d2;", 5);
        c.done("word x p3 'o' has d3; word x p2 'o' has d3 c1; word x p3 'u' has d3; word x p3 'u' has d3 c1;", 4);
        c.due("an o", parse(c, 0, "o"), 1);
        c.due("its nodes", c.x.count(0, 5), 125);
        c.due("an u", parse(c, 0, "u"), 1);
        c.due("its nodes", c.x.count(0, 5), 126);
        c.due("3000 nodes", parse(c, 0, Check.times("o ", 24)), 0);
        c.due("nodes", c.x.count(0, 5), 3000);
        c.due("ways", c.x.count(0, 6), 3000);
        c.due("3001 nodes", parse(c, 0, "u " + Check.times("o ", 23)), -1);
        none(c);
        c.due("nodes", c.x.count(0, 5), 0);
        c.due("ways", c.x.count(0, 6), 0);
    }

    private static void wayLimit() {
        Check c = new Check("limit of ways");
        c.done("kind n; fun x : > n; tongue g;", 3);
        patternsOf(c, 15, 16, 24);
        // 15 * 24 and 15 more: 375 WAYS of each o, and one more of each u.
        for (int i = 0; i < 15; i++) {
            c.done("word x p24 'o'; word x p24 'u';", 2);
        }
        c.done("word x p15 'o'; word x p16 'u';", 2);
        c.due("9000 ways", parse(c, 0, Check.times("o ", 24)), 0);
        c.due("nodes", c.x.count(0, 5), 24 * 24);
        c.due("ways", c.x.count(0, 6), 9000);
        c.due("9001 ways", parse(c, 0, "u " + Check.times("o ", 23)), -1);
        none(c);
        c.due("ways", c.x.count(0, 6), 0);
        c.due("u alone", parse(c, 0, "u"), 1);
        c.due("trees", c.x.trees(), 376);
    }

    private static void tryLimit() {
        Check c = new Check("limit of tries");
        c.done("kind n; kind t; kind s; fun x : > n; fun z : > t; fun y : n n n n > s; fun w : n n > s; fun v : t > s; tongue g;", 9);
        patternsOf(c, 10, 19, 21, 24);
        c.done("pattern one { = 1 }; word x p10 'a'; word x p19 'b'; word x p21 'c'; word x p24 'd'; word z one 'd';", 6);
        // What the first two must have makes them never agree; it is only seen when all four lie.
        String lin = "lin y = 1[c1] 2[c2] 3 4, agree 1 2 h;";
        c.done(Check.times(lin, 4) + "lin w = 1 2 'q' 'q';", 5);
        // 4 * (10 + 10*19 + 10*19*21 + 10*19*21*24) and 10 + 10*19.
        c.due("400000 tries", parse(c, 2, "a b c d"), 0);
        c.due("nodes", c.x.count(0, 5), 10 + 19 + 21 + 24 + 1);
        c.done("lin v = 'a' 'b' 'c' 1;", 1);
        c.due("400001 tries", parse(c, 2, "a b c d"), -1);
        c.due("nodes", c.x.count(0, 5), 0);
        c.due("fewer", parse(c, 2, "d c b"), 0);
    }

    private static void aForestStays() {
        Check c = Check.full("a forest stays");
        parse(c, 6, "the dog runs");
        c.done("tongue en; sound 'd' > 't'; word fly reg 'dog'; lin pred = 1 2 cost 3; fun new : > n;", 5);
        c.due("trees", c.x.trees(), 1);
        reading(c, 0, 0, "pred(det(the,dog),iv(run))");
        c.due("the word is another one now", parse(c, 6, "the dog runs"), 0);
        c.due("parse", parse(c, 6, "the tog runs"), 1);
        c.due("trees", c.x.trees(), 4);
    }
}
