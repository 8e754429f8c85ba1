/** Promises 23 (mean) and 24 (truth). */
public final class MeaningTest {
    public static void main(String[] args) {
        meanings();
        nothingIsCaught();
        told();
        steps();
        nodes();
        lacking();
        cutAtThousand();
        truths();
        noFormulas();
        looks();
        Check.finish();
    }

    /** A house whose FUN a has this meaning. */
    private static Check meaning(String name, String term) {
        Check c = new Check(name);
        c.done("kind n; fun a : > n; thing rex; thing tom; fact dog rex; fact cat tom; fact see rex tom; mean a = " + term + ";", 8);
        c.tape("a");
        c.due("tree", c.x.tree(0), 1);
        return c;
    }

    private static void means(String term, String due) {
        Check c = meaning("mean " + term, term);
        c.gives("mean", c.x.mean(0), due);
    }

    private static void isTrue(String term, int due) {
        Check c = meaning("truth " + term, term);
        c.x.show(0);
        c.due("truth", c.x.truth(0), due);
        c.dueText("truth leaves OUT", c.out(), "a");
    }

    private static void meanings() {
        Check c = Check.full("meanings");
        c.tape("pred(det(the,dog),tv(see,det(every,cat)))");
        c.x.tree(0);
        c.gives("mean", c.x.mean(0), "some(\\v1.and(dog(v1),all(\\v2.if(cat(v2),see(v2,v1)))))");
        c.due("truth", c.x.truth(0), 0);
        c.tape("pred(det(the,cat),tv(see,det(every,dog)))");
        c.x.tree(0);
        c.due("tom by rex", c.x.truth(0), 1);
        c.tape("pred(det(every,dog),iv(run))");
        c.x.tree(0);
        c.gives("mean", c.x.mean(0), "all(\\v1.if(dog(v1),run(v1)))");
        c.due("truth", c.x.truth(0), 1);
        c.done("thing fido; fact dog fido;", 2);
        c.due("truth of another world", c.x.truth(0), 0);
        c.tape("det(the,mod(big,dog))");
        c.x.tree(1);
        c.gives("mean of a phrase", c.x.mean(1), "\\v1.some(\\v2.and(and(dog(v2),big(v2)),v1(v2)))");
        c.due("truth of a phrase", c.x.truth(1), -3);
        c.givesNone("mean without a tree", c.x.mean(2), -4);
        c.due("truth without a tree", c.x.truth(2), -4);
        c.tape("mod(big,fly)");
        c.x.tree(1);
        c.givesNone("a fun without mean", c.x.mean(1), -2);
        c.due("its truth", c.x.truth(1), -2);
    }

    private static void nothingIsCaught() {
        means("(\\x.\\y.x)(y)", "\\v1.y");
        means("\\y.(\\x.\\y.x)(y)", "\\v1.\\v2.v1");
        means("\\y.(\\x.\\y.x(y))(y)", "\\v1.\\v2.v1(v2)");
        means("\\y.\\z.(\\x.\\y.x(z,y))(y(z))", "\\v1.\\v2.\\v3.v1(v2,v2,v3)");
        means("(\\f.f(f))(\\x.\\y.x(y))", "\\v1.\\v2.v1(v2)");
        means("\\x.\\x.x", "\\v1.\\v2.v2");
        means("\\x.(\\x.x)(x)", "\\v1.v1");
        Check d = new Check("names of another term");
        d.done("kind n; fun a : > n; fun b : > n; mean a = \\x.\\y.x; mean b = x(y);", 5);
        plant(d, "b");
        d.gives("mean", d.x.mean(0), "x(y)");
        Check c = new Check("arguments are not caught");
        c.done("kind n; fun a : > n; fun f : n > n; mean a = x; mean f = \\x.1(x);", 5);
        c.tape("f(a)");
        c.x.tree(0);
        c.gives("mean", c.x.mean(0), "\\v1.x(v1)");
    }

    private static void told() {
        means("dog", "dog");
        means("(((dog)))", "dog");
        means("f(a)(b)", "f(a,b)");
        means("f(a,b)(c)", "f(a,b,c)");
        means("f(g(a)(b),h(c))", "f(g(a,b),h(c))");
        means("f(\\x.x(\\y.y(x)),b)", "f(\\v1.v1(\\v2.v2(v1)),b)");
        means("\\x.f(\\y.x,x)", "\\v1.f(\\v2.v1,v1)");
        means("(\\x.x)(f)(a)", "f(a)");
        means("v1(\\x.x)", "v1(\\v1.v1)");
        means("(\\x.a)((\\x.x(x))(\\x.x(x)))", "a");
        means("f((\\x.x)(a),(\\x.x)(b))", "f(a,b)");
        means("\\x.\\y.\\z.\\a.\\b.\\c.\\d.\\e.\\f.\\g.g(f)", "\\v1.\\v2.\\v3.\\v4.\\v5.\\v6.\\v7.\\v8.\\v9.\\v10.v10(v9)");
    }

    /** What gives its second argument so many times to its first. */
    private static String many(int n) {
        return "(\\s.\\z." + Check.times("s(", n) + "z" + Check.times(")", n) + ")";
    }

    private static void steps() {
        Check loop = meaning("a loop", "(\\x.x(x))(\\x.x(x))");
        loop.givesNone("mean", loop.x.mean(0), -1);
        loop.due("truth", loop.x.truth(0), -1);
        Check c = new Check("steps");
        c.done("kind n; fun a : > n; fun g : n > n; fun f : n > n; fun h : n > n; mean a = dog; mean g = (\\x.x)(1);", 7);
        // A many(k) around something takes two steps and k times those of what it is around; \x.x takes one.
        c.done("mean f = " + many(5) + "(" + many(5) + "(\\x.x))(1);", 1);
        c.done("mean h = " + many(4) + "(" + many(4) + "(" + many(4) + "(\\x.x)))(1);", 1);
        plant(c, "f(a)");
        c.gives("37 steps", c.x.mean(0), "dog");
        plant(c, "h(a)");
        c.gives("106 steps", c.x.mean(0), "dog");
        String most = "f(f(h(h(h(a)))))";
        plant(c, Check.times("g(", 8) + most + Check.times(")", 8));
        c.gives("400 steps", c.x.mean(0), "dog");
        plant(c, Check.times("g(", 9) + most + Check.times(")", 9));
        c.givesNone("401 steps", c.x.mean(0), -1);
    }

    private static void nodes() {
        Check c = new Check("nodes");
        c.done("kind n; fun a : > n; fun f : n > n; fun g : n n > n; fun h : n > n; fun k : n > n;", 6);
        // a has 10 nodes, g those of its two and 0 more of its own but one.
        c.done("mean a = p(q)(r)(s)(\\x.t); mean g = 1(2); mean f = \\x.1; mean h = (\\x.y)(1); mean k = (\\x.x(x))(1);", 5);
        String twentySeven = "a";
        for (int i = 1; i < 27; i++) {
            twentySeven = "g(a," + twentySeven + ")";
        }
        // 27 * 10 + 26 nodes.
        c.due("tree", plant(c, twentySeven), 53);
        c.due("296 nodes", c.x.mean(0) > 0 ? 1 : 0, 1);
        c.due("tree", plant(c, "f(f(f(f(" + twentySeven + "))))"), 57);
        c.due("300 nodes", c.x.mean(0) > 0 ? 1 : 0, 1);
        c.due("tree", plant(c, "f(f(f(f(f(" + twentySeven + ")))))"), 58);
        c.givesNone("301 nodes", c.x.mean(0), -1);
        c.due("tree", plant(c, "h(f(" + twentySeven + "))"), 55);
        c.gives("300 nodes that become one", c.x.mean(0), "y");
        c.due("tree", plant(c, "h(f(f(" + twentySeven + ")))"), 56);
        c.givesNone("301 nodes that would become one", c.x.mean(0), -1);
        String fourteen = "a";
        for (int i = 1; i < 14; i++) {
            fourteen = "g(a," + fourteen + ")";
        }
        // 153 nodes twice are too many, though they are few ahead.
        c.due("tree", plant(c, "k(" + fourteen + ")"), 28);
        c.givesNone("307 nodes on the way", c.x.mean(0), -1);
        c.due("tree", plant(c, "h(k(" + fourteen + "))"), 29);
        c.gives("the outermost comes first", c.x.mean(0), "y");
        String thirteen = "a";
        for (int i = 1; i < 13; i++) {
            thirteen = "g(a," + thirteen + ")";
        }
        // 149 nodes twice and one more for what is applied.
        String most = "k(" + Check.times("f(", 7) + thirteen + Check.times(")", 7) + ")";
        c.due("tree", plant(c, most), 33);
        c.due("299 nodes", c.x.mean(0) > 0 ? 1 : 0, 1);
        c.due("tree", plant(c, "f(" + most + ")"), 34);
        c.due("300 nodes", c.x.mean(0) > 0 ? 1 : 0, 1);
        c.due("tree", plant(c, "f(f(" + most + "))"), 35);
        c.givesNone("301 nodes", c.x.mean(0), -1);
        c.due("tree", plant(c, "g(" + most + ",a)"), 35);
        c.givesNone("much more behind it", c.x.mean(0), -1);
    }

    private static int plant(Check c, String tree) {
        c.tape(tree);
        return c.x.tree(0);
    }

    private static void lacking() {
        Check c = new Check("a fun without mean");
        c.done("kind n; fun a : > n; fun b : > n; fun f : n n > n; mean a = x; mean f = 1;", 6);
        c.due("tree", plant(c, "f(a,a)"), 3);
        c.gives("mean", c.x.mean(0), "x");
        c.due("tree", plant(c, "f(a,b)"), 3);
        c.givesNone("also where it is not used", c.x.mean(0), -2);
    }

    private static void cutAtThousand() {
        Check c = new Check("cut at 1000");
        c.done("kind n; fun f : n n n n > n; fun a : > n; mean a = abcdefgh(abcdefgh,abcdefgh,abcdefgh); mean f = xxxxxxxx(1,2,3,4);", 5);
        String one = "f(a,a,a,a)";
        c.due("tree", plant(c, "f(" + one + "," + one + "," + one + "," + one + ")"), 21);
        // 16 a of 36 bytes, and five times the name and five signs around four of them.
        c.due("mean", c.x.mean(0), 16 * 36 + 5 * 13);
        c.due("tree", plant(c, "f(" + one + "," + one + "," + one + ",f(" + one + "," + one + "," + one + ",a))"), 33);
        // It would be 25 * 36 + 8 * 13.
        c.due("mean", c.x.mean(0), 1000);
        c.due("the last byte", c.x.out(999) >= 0 ? 1 : 0, 1);
        c.due("there is no more", c.x.out(1000), -1);
    }

    private static void truths() {
        isTrue("dog(rex)", 1);
        isTrue("dog(tom)", 0);
        isTrue("see(rex,tom)", 1);
        isTrue("see(tom,rex)", 0);
        isTrue("dog(rex,rex)", 0);
        isTrue("see(rex)", 0);
        isTrue("unknown(rex)", 0);
        isTrue("is(rex,rex)", 1);
        isTrue("is(rex,tom)", 0);
        isTrue("not(dog(rex))", 0);
        isTrue("not(dog(tom))", 1);
        int[][] two = {{0, 0}, {0, 1}, {1, 0}, {1, 1}};
        String[] atoms = {"dog(tom)", "dog(rex)"};
        for (int[] v : two) {
            String pair = "(" + atoms[v[0]] + "," + atoms[v[1]] + ")";
            isTrue("and" + pair, v[0] & v[1]);
            isTrue("or" + pair, v[0] | v[1]);
            isTrue("if" + pair, 1 - v[0] | v[1]);
        }
        isTrue("all(\\x.or(dog(x),cat(x)))", 1);
        isTrue("all(\\x.dog(x))", 0);
        isTrue("some(\\x.dog(x))", 1);
        isTrue("some(\\x.and(dog(x),cat(x)))", 0);
        isTrue("all(\\x.some(\\y.not(is(x,y))))", 1);
        isTrue("some(\\x.all(\\y.if(cat(y),see(x,y))))", 1);
        isTrue("and(some(\\x.all(\\y.or(see(x,y),is(x,y)))),dog(rex))", 1);
        isTrue("all(\\x.some(\\y.some(\\z.and(is(x,y),is(y,z)))))", 1);
        isTrue("not(some(\\x.see(x,x)))", 1);
        isTrue("(\\p.p(rex))(dog)", 1);
        Check c = new Check("without things");
        c.done("kind n; fun a : > n; fun b : > n; mean a = all(\\x.nonsense); mean b = some(\\x.nonsense);", 5);
        plant(c, "a");
        c.due("all of none", c.x.truth(0), 1);
        plant(c, "b");
        c.due("some of none", c.x.truth(0), 0);
    }

    private static void noFormulas() {
        for (String none : new String[] {"rex", "dog", "dog(fido)", "dog(rex,fido)", "dog(fido,rex)", "dog(rex,tom,rex)", "is(rex)",
            "is(rex,fido)", "is(rex,tom,rex)", "not(rex)", "not(dog(rex),dog(rex))", "and(dog(rex))", "and(dog(rex),rex)",
            "or(dog(rex),rex)", "if(dog(tom),rex)", "and(dog(tom),rex)", "or(rex,dog(rex))", "all(dog)", "all(rex)", "some(rex,tom)",
            "all(\\x.x)", "all(\\x.x(rex))", "some(\\x.or(dog(x),x))", "\\x.dog(rex)", "dog(\\x.x)", "dog(dog(rex))",
            "all(\\x.dog(rex),rex)", "not", "all", "some(\\x.if(cat(x),is(x,fido)))", "and(dog(rex),dog(rex),dog(rex))"}) {
            isTrue(none, -3);
        }
        Check c = new Check("facts of words of their own");
        c.done("kind n; fun a : > n; fun b : > n; thing rex; fact all rex; fact is rex; fact not rex rex; mean a = all(rex); mean b = not(rex,rex);", 9);
        plant(c, "a");
        c.due("all is no other name", c.x.truth(0), -3);
        plant(c, "b");
        c.due("not is no other name", c.x.truth(0), -3);
    }

    private static void looks() {
        Check c = new Check("looks");
        StringBuilder things = new StringBuilder();
        for (int i = 0; i < 8; i++) {
            things.append("thing t" + i + "; ");
        }
        c.done(things.toString(), 8);
        c.done("kind n; fun a : > n; fun b : > n; fun d : > n; fun e : > n; fun f : n n > n; fun h : > n;", 7);
        // all of all ..: 1 + 8 + 64 + 512 + 4096 looks with four of them.
        c.done("mean a = all(\\x.all(\\y.all(\\z.all(\\w.is(x,x)))));", 1);
        c.done("mean b = all(\\x.all(\\y.all(\\z.all(\\w.all(\\v.is(x,x))))));", 1);
        c.done("mean d = some(\\x.some(\\y.some(\\z.some(\\w.is(x,nobody)))));", 1);
        c.done("mean e = all(\\x.all(\\y.is(x,x))); mean f = and(1,2); mean h = is(t1,t1);", 3);
        plant(c, "a");
        c.due("4681 looks", c.x.truth(0), 1);
        plant(c, "b");
        c.due("37449 looks", c.x.truth(0), -1);
        plant(c, "d");
        c.due("4681 looks at none", c.x.truth(0), -3);
        plant(c, "f(b,d)");
        c.due("-1 is ahead of -3", c.x.truth(0), -1);
        plant(c, "f(d,b)");
        c.due("-1 is ahead of -3, also later", c.x.truth(0), -1);
        c.done("fun i : n > n; fun m : > n; mean i = not(1); mean m = all(\\x.all(\\y.all(\\z.is(x,x))));", 4);
        // Four a of 4681, two m of 585, an e of 73, 13 h of 1, and 19 f around them: 19999.
        String tree = "f(a,f(a,f(a,f(a,f(m,f(m,f(e," + Check.times("f(h,", 12) + "h" + Check.times(")", 19);
        plant(c, tree);
        c.due("19999 looks", c.x.truth(0), 1);
        plant(c, "i(" + tree + ")");
        c.due("20000 looks", c.x.truth(0), 0);
        plant(c, "i(i(" + tree + "))");
        c.due("20001 looks", c.x.truth(0), -1);
    }
}
