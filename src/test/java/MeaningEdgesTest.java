/** The edges that Terms 6 and promises 23 and 24 name: each method is for the words of the document above it. */
public final class MeaningEdgesTest {
    public static void main(String[] args) {
        termsOfArguments();
        fourHundredTimes();
        threeHundredNodes();
        tooManyOnTheWay();
        outermostFirst();
        boundVariables();
        threeDigits();
        boundByNothing();
        nothingIsCaught();
        toldWithArguments();
        withoutMean();
        withoutTree();
        formulas();
        whatIsNone();
        oneOrTwoThings();
        allAndSome();
        partsOfFormulas();
        twentyThousandLooks();
        looksAtWhatIsNone();
        againAndAgain();
        Check.finish();
    }

    /** A house whose FUN a has this meaning. */
    private static Check meaning(String term) {
        Check c = new Check("mean " + term);
        c.done("kind n; fun a : > n; thing rex; thing tom; fact dog rex; fact cat tom; fact see rex tom; mean a = " + term + ";", 8);
        plant(c, "a");
        return c;
    }

    private static int plant(Check c, String tree) {
        c.tape(tree);
        return c.x.tree(0);
    }

    private static void means(String term, String due) {
        Check c = meaning(term);
        c.gives("mean", c.x.mean(0), due);
    }

    private static void isTrue(String term, int due) {
        Check c = meaning(term);
        c.due("truth", c.x.truth(0), due);
    }

    // "the TERM of a TREE is that of its FUN, with the TERMS of its arguments, made likewise (not reduced), where their NUMBERS stand"
    private static void termsOfArguments() {
        Check c = new Check("terms of arguments");
        c.done("kind n; fun a : > n; fun b : > n; fun f : n n n n > n; fun g : n n > n; fun h : n > n; fun i : n n > n;", 7);
        c.done("mean a = p; mean b = \\x.q(x); mean f = r(4,3,2,1); mean g = 2(1); mean h = 1(1)(1,1); mean i = \\x.1(x,2);", 6);
        String[] trees = {"a", "b", "f(a,b,a,b)", "g(a,b)", "g(b,a)", "h(a)", "h(h(a))", "i(a,b)", "i(b,a)", "g(g(a,b),g(b,a))"};
        String[] due = {"p", "\\v1.q(v1)", "r(\\v1.q(v1),p,\\v1.q(v1),p)", "q(p)", "p(\\v1.q(v1))", "p(p,p,p)",
            "p(p,p,p,p(p,p,p),p(p,p,p),p(p,p,p))", "\\v1.p(v1,\\v2.q(v2))", "\\v1.q(v1,p)", "p(\\v1.q(v1),q(p))"};
        for (int i = 0; i < trees.length; i++) {
            plant(c, trees[i]);
            c.gives("mean of " + trees[i], c.x.mean(0), due[i]);
        }
    }

    /** What gives its second argument so many times to its first. */
    private static String many(int n) {
        return "(\\s.\\z." + Check.times("s(", n) + "z" + Check.times(")", n) + ")";
    }

    // "reduced as a whole: .. 400 times at most (-1)"
    private static void fourHundredTimes() {
        Check c = new Check("400 times");
        c.done("kind n; fun a : > n; fun g : n > n; fun f : n > n; fun h : n > n; thing rex; fact dog rex; mean a = dog(rex); mean g = (\\x.x)(1);", 9);
        // A many(k) around something takes two steps and k times those of what it is around; \x.x takes one.
        c.done("mean f = " + many(5) + "(" + many(5) + "(\\x.x))(1);", 1);
        c.done("mean h = " + many(4) + "(" + many(4) + "(" + many(4) + "(\\x.x)))(1);", 1);
        // f takes 37, h 106.
        String most = "f(f(h(h(h(a)))))";
        for (int i = 6; i <= 10; i++) {
            plant(c, Check.times("g(", i) + most + Check.times(")", i));
            if (i <= 8) {
                c.gives(392 + i + " times", c.x.mean(0), "dog(rex)");
                c.due("truth", c.x.truth(0), 1);
            } else {
                c.givesNone(392 + i + " times", c.x.mean(0), -1);
                c.due("truth", c.x.truth(0), -1);
            }
        }
        Check loop = meaning("(\\x.x(x))(\\x.x(x))");
        loop.givesNone("without end", loop.x.mean(0), -1);
        loop.due("without end", loop.x.truth(0), -1);
    }

    /** So many of a in a row, by a FUN that takes one node each. */
    private static String rowOf(int n) {
        return Check.times("g(a,", n - 1) + "a" + Check.times(")", n - 1);
    }

    // "at most 300 nodes at any time (-1)"
    private static void threeHundredNodes() {
        Check c = new Check("300 nodes");
        c.done("kind n; fun a : > n; fun f : n > n; fun g : n n > n; fun h : n > n; fun b : > n; fun d : n n > n;", 7);
        // a has 10 nodes, f one more than its argument, g one more than its two, b two.
        c.done("mean a = p(q)(r)(s)(\\x.t); mean f = \\x.1; mean g = 1(2); mean h = (\\x.y)(1); mean b = \\x.x; mean d = 2;", 6);
        for (int i = 0; i < 7; i++) {
            plant(c, Check.times("f(", i) + rowOf(27) + Check.times(")", i));
            c.due(296 + i + " nodes", c.x.mean(0) > 0 ? 1 : c.x.mean(0), i <= 4 ? 1 : -1);
            if (i > 4) {
                c.givesNone("OUT", c.x.mean(0), -1);
            }
        }
        // Those that are too many at first would be one in the end.
        for (int i = 0; i < 4; i++) {
            plant(c, "h(" + Check.times("f(", i) + rowOf(27) + Check.times(")", i + 1));
            if (i <= 1) {
                c.gives(299 + i + " nodes", c.x.mean(0), "y");
            } else {
                c.givesNone(299 + i + " nodes", c.x.mean(0), -1);
            }
        }
        // An argument whose NUMBER stands nowhere has no nodes there.
        plant(c, "d(" + rowOf(28) + ",a)");
        c.gives("an argument that is not used", c.x.mean(0), "p(q,r,s,\\v1.t)");
    }

    private static void tooManyOnTheWay() {
        Check c = new Check("on the way");
        c.done("kind n; fun a : > n; fun f : n > n; fun g : n n > n; fun k : n > n; fun m : n > n; fun o : n > n; fun z : n n > n;", 8);
        c.done("mean a = p(q)(r)(s)(\\x.t); mean f = \\x.1; mean g = 1(2); mean k = (\\x.x(x))(1); mean m = (\\x.x(x(u)))(1); mean o = (\\x.x(x)(u)(u))(1);", 6);
        c.done("mean z = (\\x.\\y.y)(1(1))(2);", 1);
        // 142 and so many f: twice that, and what stands around.
        for (int i = 6; i <= 9; i++) {
            String some = Check.times("f(", i) + rowOf(13) + Check.times(")", i);
            int twice = 2 * (142 + i);
            plant(c, "k(" + some + ")");
            c.due("k: " + (twice + 1), c.x.mean(0) > 0 ? 1 : -1, twice + 1 <= 300 ? 1 : -1);
            plant(c, "m(" + some + ")");
            c.due("m: " + (twice + 3), c.x.mean(0) > 0 ? 1 : -1, twice + 3 <= 300 ? 1 : -1);
            plant(c, "o(" + some + ")");
            c.due("o: " + (twice + 5), c.x.mean(0) > 0 ? 1 : -1, twice + 5 <= 300 ? 1 : -1);
        }
        c.done("fun r : n > n; fun w : n > n; fun v : n > n; mean r = (\\x.\\y.x(x(u)))(1); mean w = h((\\x.x(x))(1),u); mean v = \\y.h((\\x.x(x))(1),u);", 6);
        for (int i = 4; i <= 7; i++) {
            String some = Check.times("f(", i) + rowOf(13) + Check.times(")", i);
            int twice = 2 * (142 + i);
            plant(c, "r(" + some + ")");
            c.due("r: " + (twice + 4), c.x.mean(0) > 0 ? 1 : -1, twice + 4 <= 300 ? 1 : -1);
            plant(c, "w(" + some + ")");
            c.due("w: " + (twice + 5), c.x.mean(0) > 0 ? 1 : -1, twice + 5 <= 300 ? 1 : -1);
            plant(c, "v(" + some + ")");
            c.due("v: " + (twice + 6), c.x.mean(0) > 0 ? 1 : -1, twice + 6 <= 300 ? 1 : -1);
        }
        // What goes in the next step counts as long as it is there.
        plant(c, "z(" + rowOf(13) + ",a)");
        c.gives("300", c.x.mean(0), "p(q,r,s,\\v1.t)");
        plant(c, "z(f(" + rowOf(13) + "),a)");
        c.givesNone("302", c.x.mean(0), -1);
    }

    // "the outermost leftmost first"
    private static void outermostFirst() {
        String loop = "(\\x.x(x))(\\x.x(x))";
        means("(\\x.a)(" + loop + ")", "a");
        means("(\\x.\\y.x)(a)(" + loop + ")", "a");
        means("(\\x.\\y.y)(" + loop + ")(b)", "b");
        means("(\\f.f(a))(\\x.b)", "b");
        Check c = meaning("f((\\x.a)(b)," + loop + ")");
        c.givesNone("no end of the other one", c.x.mean(0), -1);
        Check d = meaning("\\y." + loop);
        d.givesNone("also under a binder", d.x.mean(0), -1);
        means("\\y.(\\x.x)(y)", "\\v1.v1");
        means("f(\\y.(\\x.x)(y))", "f(\\v1.v1)");
        means("f((\\x.x)(a))((\\x.x)(b))", "f(a,b)");
        means("(\\x.x)(\\x.x)(\\x.x)(a)", "a");
    }

    // "Variables that are bound are told as v1, v2 .. by how many stand around them"
    private static void boundVariables() {
        means("\\x.x", "\\v1.v1");
        means("\\x.\\y.\\z.y", "\\v1.\\v2.\\v3.v2");
        means("f(\\x.x,\\y.y)", "f(\\v1.v1,\\v1.v1)");
        means("\\a.f(\\x.x(a),\\y.a(y),a)", "\\v1.f(\\v2.v2(v1),\\v2.v1(v2),v1)");
        means("f(\\x.\\y.y,g(\\z.z))", "f(\\v1.\\v2.v2,g(\\v1.v1))");
        means("\\x.f(\\x.x,x)", "\\v1.f(\\v2.v2,v1)");
        means("\\x.\\x.\\x.x", "\\v1.\\v2.\\v3.v3");
        means("\\x.x(\\y.x(\\z.x(z,y)),\\w.w)", "\\v1.v1(\\v2.v1(\\v3.v1(v3,v2)),\\v2.v2)");
    }

    private static void threeDigits() {
        Check c = new Check("three digits");
        c.done("kind n; fun a : > n; fun b : > n; fun f : n > n; mean a = \\x.\\y.x; mean b = z; mean f = " + Check.times("\\x.", 39) + "1;", 7);
        plant(c, "f(f(f(a)))");
        // 9 of one digit, 90 of two, 20 of three.
        c.due("mean", c.x.mean(0), 9 * 4 + 90 * 5 + 20 * 6 + 4);
        String end = ".\\v117.\\v118.\\v119.v118";
        for (int i = 0; i < end.length(); i++) {
            c.due("byte " + i + " of the end", c.x.out(610 - end.length() + i), end.charAt(i));
        }
        String middle = "\\v98.\\v99.\\v100.\\v101.";
        int at = 9 * 4 + 88 * 5;
        for (int i = 0; i < middle.length(); i++) {
            c.due("byte " + i + " of the middle", c.x.out(at + i), middle.charAt(i));
        }
        String begin = "\\v1.\\v2.";
        for (int i = 0; i < begin.length(); i++) {
            c.due("byte " + i, c.x.out(i), begin.charAt(i));
        }
        c.due("tens", c.x.out(9 * 4 + 2), '1');
        c.due("tens", c.x.out(9 * 4 + 3), '0');
    }

    // "names that are bound by nothing are told as they are"
    private static void boundByNothing() {
        means("v1", "v1");
        means("\\x.v1", "\\v1.v1");
        means("abcdefgh(z0)", "abcdefgh(z0)");
        means("x(\\x.x)", "x(\\v1.v1)");
        means("(\\x.x)(x)", "x");
        means("f(\\x.x,x)", "f(\\v1.v1,x)");
        means("and", "and");
        Check c = new Check("names of a fun are its own");
        c.done("kind n; fun a : > n; fun b : n > n; mean a = x(y); mean b = \\x.\\y.1(x);", 5);
        plant(c, "b(a)");
        c.gives("mean", c.x.mean(0), "\\v1.\\v2.x(y,v1)");
    }

    // "(\x.T)(A) becomes T with A for x": what is bound stays bound to its own.
    private static void nothingIsCaught() {
        means("(\\x.\\y.x)(y)", "\\v1.y");
        means("\\z.(\\x.\\w.x)(f(\\y.y,z))", "\\v1.\\v2.f(\\v3.v3,v1)");
        means("\\z.(\\x.\\w.x)(f(\\y.y(z),z))", "\\v1.\\v2.f(\\v3.v3(v1),v1)");
        means("\\z.(\\x.\\w.x(w))(z)", "\\v1.\\v2.v1(v2)");
        means("\\z.(\\x.\\w.f(\\u.x,x,w))(z)", "\\v1.\\v2.f(\\v3.v1,v1,v2)");
        means("\\a.\\b.(\\x.\\c.x)(f(\\d.\\e.f(d,a,e),b))", "\\v1.\\v2.\\v3.f(\\v4.\\v5.f(v4,v1,v5),v2)");
        means("(\\x.f(\\y.x(y),x))(a)", "f(\\v1.a(v1),a)");
        means("\\z.(\\x.f(\\y.z,z,x))(a)", "\\v1.f(\\v2.v1,v1,a)");
        means("\\z.(\\x.f(\\y.\\w.z(x),x(z)))(g(\\u.u(z)))", "\\v1.f(\\v2.\\v3.v1(g(\\v4.v4(v1))),g(\\v2.v2(v1),v1))");
        means("\\z.f((\\x.x(x))(\\y.y(z)),z)", "\\v1.f(v1(v1),v1)");
        means("(\\x.\\y.\\z.x(z)(y(z)))(\\x.\\y.x)(\\x.\\y.x)", "\\v1.v1");
        means("\\p.(\\x.\\y.x(y))(p)", "\\v1.\\v2.v1(v2)");
        means("\\p.\\q.(\\x.\\y.x(y))(q(p))", "\\v1.\\v2.\\v3.v2(v1,v3)");
    }

    // "It is told as \v1.T, and f(A)(B) as f(A,B)"
    private static void toldWithArguments() {
        means("f(a)", "f(a)");
        means("f(a)(b)(c)(d)", "f(a,b,c,d)");
        means("f(a,b)(c,d)", "f(a,b,c,d)");
        means("(f(a))(b)", "f(a,b)");
        means("f(g(a)(b))(h(c))", "f(g(a,b),h(c))");
        means("f(g(h(a)))", "f(g(h(a)))");
        means("\\x.x(a)(\\y.y)(b)", "\\v1.v1(a,\\v2.v2,b)");
        means("((f))((a))", "f(a)");
    }

    // "A FUN without mean: -2."
    private static void withoutMean() {
        Check c = new Check("without mean");
        c.done("kind n; fun a : > n; fun b : > n; fun f : n > n; fun g : n > n; mean a = dog(rex); mean f = 1; thing rex;", 8);
        String[] without = {"b", "g(a)", "g(b)", "f(b)", "f(f(b))", "g(f(a))", "f(g(a))"};
        for (String tree : without) {
            plant(c, "f(a)");
            c.gives("mean", c.x.mean(0), "dog(rex)");
            plant(c, tree);
            c.givesNone("mean of " + tree, c.x.mean(0), -2);
            c.due("truth of " + tree, c.x.truth(0), -2);
        }
        c.done("mean b = cat; mean g = not(1);", 2);
        plant(c, "g(f(a))");
        c.due("it has one now", c.x.truth(0), 1);
    }

    // mean, truth: "-4 without a TREE"
    private static void withoutTree() {
        Check c = Check.full("without a tree");
        for (int place = 0; place < 8; place++) {
            c.givesNone("mean of " + place, c.x.mean(place), -4);
            c.due("truth of " + place, c.x.truth(place), -4);
        }
        plant(c, "zz");
        c.due("a wrong tree is none", c.x.truth(0), -4);
        plant(c, "dog");
        c.due("a name is no formula", c.x.truth(0), -3);
        c.gives("but has a meaning", c.x.mean(0), "dog");
        for (int place : new int[] {-1, 8}) {
            c.refuses("mean", () -> c.x.mean(place));
            c.refuses("truth", () -> c.x.truth(place));
        }
    }

    // "and(A,B), or(A,B), if(A,B), not(A) .. is(A,B): the same THING"
    private static void formulas() {
        String no = "dog(tom)";
        String yes = "dog(rex)";
        for (int i = 0; i < 4; i++) {
            String pair = "(" + (i / 2 == 1 ? yes : no) + "," + (i % 2 == 1 ? yes : no) + ")";
            isTrue("and" + pair, i == 3 ? 1 : 0);
            isTrue("or" + pair, i > 0 ? 1 : 0);
            isTrue("if" + pair, i == 2 ? 0 : 1);
        }
        isTrue("not(" + yes + ")", 0);
        isTrue("not(" + no + ")", 1);
        isTrue("is(rex,rex)", 1);
        isTrue("is(tom,rex)", 0);
        isTrue("not(not(and(or(" + no + "," + yes + "),if(" + yes + ",not(" + no + ")))))", 1);
    }

    // "What is none of these anywhere that is looked at: -3 (and, or, if look at both; all, some at all THINGS ..)"
    private static void whatIsNone() {
        for (String none : new String[] {"or(dog(rex),zz)", "or(zz,dog(rex))", "and(dog(tom),zz)", "and(zz,dog(tom))", "if(dog(tom),zz)", "if(zz,dog(rex))",
            "not(zz)", "not(not(zz))", "some(\\x.or(is(x,rex),zz))", "all(\\x.or(is(x,tom),is(x,fido)))", "some(\\x.if(is(x,tom),zz))",
            "all(\\x.and(is(x,tom),some(\\y.zz)))", "zz", "\\x.dog(x)", "not", "not(dog(rex),dog(rex))", "not(dog(rex))(dog(rex))", "and", "and(dog(rex))",
            "and(dog(rex),dog(rex),dog(rex))", "or(dog(rex))", "or(dog(rex),dog(rex),dog(rex))", "if(dog(rex))", "if(dog(rex),dog(rex),dog(rex))",
            "all(dog)", "all(dog(rex))", "all(\\x.dog(x),rex)", "all", "some(dog)", "some(\\x.dog(x),\\x.dog(x))", "some", "is(rex)", "is", "is(rex,rex,rex)",
            "is(rex,zz)", "is(zz,rex)", "is(dog(rex),rex)", "is(\\x.x,rex)", "dog(zz)", "dog(rex,zz)", "dog(zz,rex)", "dog(dog(rex))", "dog(\\x.x)"}) {
            isTrue(none, -3);
        }
        Check c = new Check("of no THINGS");
        c.done("kind n; fun a : > n; fun b : > n; mean a = all(\\x.zz); mean b = some(\\x.zz);", 5);
        plant(c, "a");
        c.due("all of none, which is not looked at", c.x.truth(0), 1);
        plant(c, "b");
        c.due("some of none", c.x.truth(0), 0);
        c.done("thing rex;", 1);
        c.due("it is looked at now", c.x.truth(0), -3);
    }

    // "another name (a variable is none) with one or two THINGS: whether it is a fact"
    private static void oneOrTwoThings() {
        isTrue("dog(rex)", 1);
        isTrue("dog(rex,rex)", 0);
        isTrue("see(rex,tom)", 1);
        isTrue("see(tom,rex)", 0);
        isTrue("see(rex)", 0);
        isTrue("zz(rex)", 0);
        isTrue("zz(rex,tom)", 0);
        isTrue("rex(tom)", 0);
        isTrue("dog(rex,rex,rex)", -3);
        isTrue("some(\\x.x(rex))", -3);
        isTrue("some(\\x.x(rex,tom))", -3);
        isTrue("some(\\x.dog(x))", 1);
        isTrue("some(\\x.see(x,tom))", 1);
        isTrue("some(\\x.see(tom,x))", 0);
        isTrue("some(\\x.see(rex,x))", 1);
        isTrue("all(\\x.see(rex,x))", 0);
        Check c = new Check("facts of their own names");
        c.done("kind n; fun a : > n; fun b : > n; fun d : > n; thing rex; fact and rex rex; fact not rex; fact some rex; mean a = and(rex,rex); mean b = not(rex); mean d = some(rex);", 11);
        for (String tree : new String[] {"a", "b", "d"}) {
            plant(c, tree);
            c.due("they are no other names", c.x.truth(0), -3);
        }
    }

    // "all(\x.T), some(\x.T): for all, for some THING x"
    private static void allAndSome() {
        Check c = new Check("all and some");
        c.done("kind n; fun a : > n; fun b : > n; fun d : > n; fun e : > n; mean a = all(\\x.p(x)); mean b = some(\\x.q(x)); mean d = all(\\x.some(\\y.r(x,y)));", 8);
        c.done("mean e = some(\\x.all(\\y.r(y,x)));", 1);
        String[] trees = {"a", "b", "d", "e"};
        for (int place = 0; place < 4; place++) {
            c.tape(trees[place]);
            c.x.tree(place);
        }
        int[] none = {1, 0, 1, 0};
        for (int place = 0; place < 4; place++) {
            c.due("of no THINGS", c.x.truth(place), none[place]);
        }
        for (int i = 0; i < 8; i++) {
            c.done("thing t" + i + ";", 1);
            c.due("not all yet", c.x.truth(0), 0);
            c.due("not some yet", c.x.truth(1), 0);
            c.due("not all yet", c.x.truth(2), 0);
            c.done("fact p t" + i + "; fact r t" + i + " t" + (i + 3) % 8 % (i + 1) + ";", 2);
            c.due("all now", c.x.truth(0), 1);
            c.due("all have some now", c.x.truth(2), 1);
        }
        c.due("none has all", c.x.truth(3), 0);
        c.done("fact q t7;", 1);
        c.due("the last one", c.x.truth(1), 1);
        for (int i = 0; i < 8; i++) {
            c.due("not yet", c.x.truth(3), 0);
            c.done("fact r t" + i + " t7;", 1);
        }
        c.due("one has all", c.x.truth(3), 1);
    }

    // A variable is its own THING wherever it stands, also behind parts with variables of their own.
    private static void partsOfFormulas() {
        isTrue("some(\\x.and(some(\\y.cat(y)),dog(x)))", 1);
        isTrue("some(\\x.and(some(\\y.dog(y)),is(x,tom)))", 1);
        isTrue("all(\\x.or(all(\\y.dog(y)),some(\\z.is(x,z))))", 1);
        isTrue("some(\\x.if(some(\\y.is(x,y)),cat(x)))", 1);
        isTrue("some(\\x.and(not(some(\\y.see(y,y))),dog(x)))", 1);
        isTrue("all(\\x.and(some(\\y.is(x,y)),some(\\y.and(some(\\z.is(z,y)),not(is(x,y))))))", 1);
        isTrue("some(\\x.some(\\y.and(and(all(\\z.some(\\w.is(z,w))),dog(x)),and(some(\\z.is(z,x)),cat(y)))))", 1);
        isTrue("some(\\x.some(\\y.and(some(\\z.see(x,z)),some(\\z.see(y,z)))))", 1);
        isTrue("some(\\x.and(all(\\y.some(\\z.is(y,z))),and(all(\\y.some(\\z.is(y,z))),see(x,tom))))", 1);
        isTrue("all(\\x.and(all(\\y.some(\\z.is(y,z))),dog(x)))", 0);
        isTrue("and(all(\\x.some(\\y.is(x,y))),all(\\x.some(\\y.is(y,x))))", 1);
    }

    private static Check looks() {
        Check c = new Check("looks");
        StringBuilder things = new StringBuilder();
        for (int i = 0; i < 8; i++) {
            things.append("thing t" + i + ";");
        }
        c.done(things.toString(), 8);
        c.done("kind n; fun a : > n; fun e : > n; fun f : n n > n; fun h : > n; fun i : n > n; fun m : > n; fun o : > n; fun z : > n; fun y : > n;", 10);
        c.done("mean a = all(\\x.all(\\y.all(\\z.all(\\w.is(x,x))))); mean e = all(\\x.all(\\y.is(x,x))); mean f = and(1,2); mean h = is(t1,t1);", 4);
        c.done("mean i = not(1); mean m = all(\\x.all(\\y.all(\\z.is(x,x)))); mean o = or(is(t1,t2),is(t1,t1)); mean z = nobody; mean y = all(nobody);", 5);
        return c;
    }

    // "more than 20000 looks at formulas: -1, ahead of -3"
    private static void twentyThousandLooks() {
        Check c = looks();
        // Four a of 4681, two m of 585, an e of 73, 13 h of 1, and 19 f around them: 19999.
        String most = "f(a,f(a,f(a,f(a,f(m,f(m,f(e," + Check.times("f(h,", 12) + "h" + Check.times(")", 19);
        plant(c, most);
        c.due("19999", c.x.truth(0), 1);
        plant(c, "i(" + most + ")");
        c.due("20000", c.x.truth(0), 0);
        plant(c, "i(i(" + most + "))");
        c.due("20001", c.x.truth(0), -1);
        // The last h is an or of two: two looks more.
        String other = most.replace("f(h,h)", "f(h,o)");
        plant(c, other);
        c.due("20001", c.x.truth(0), -1);
        plant(c, other.replace("f(h,f(h,o))", "f(h,o)"));
        c.due("19999", c.x.truth(0), 1);
        c.due("the meaning is told", c.x.mean(0) > 0 ? 1 : 0, 1);
    }

    // "a look at a formula is one, also at what is none"
    private static void looksAtWhatIsNone() {
        Check c = looks();
        for (String none : new String[] {"z", "y"}) {
            for (String order : new String[] {"f(a,f(a,f(a,f(a,f(m,f(m,f(e," + Check.times("f(h,", 12) + none + Check.times(")", 19),
                "f(" + none + ",f(a,f(a,f(a,f(a,f(m,f(m,f(e," + Check.times("f(h,", 11) + "h" + Check.times(")", 19)}) {
                plant(c, order);
                c.due("19999", c.x.truth(0), -3);
                plant(c, "i(" + order + ")");
                c.due("20000", c.x.truth(0), -3);
                plant(c, "i(i(" + order + "))");
                c.due("20001", c.x.truth(0), -1);
            }
        }
    }

    // The same calls always give the same answers.
    private static void againAndAgain() {
        Check c = new Check("again and again");
        c.done("kind n; fun a : > n; fun b : > n; thing rex; thing tom; fact dog rex; mean b = \\x.x;", 7);
        c.done("mean a = some(\\x.some(\\y.some(\\z.some(\\w.and(some(\\v.some(\\u.is(u,v))),dog(x))))));", 1);
        plant(c, "a");
        for (int i = 0; i < 200; i++) {
            c.due("truth " + i, c.x.truth(0), 1);
        }
        int told = c.x.mean(0);
        for (int i = 0; i < 100; i++) {
            c.due("mean " + i, c.x.mean(0), told);
        }
    }
}
