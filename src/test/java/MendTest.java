/** Promise 30 (mend). */
public final class MendTest {
    public static void main(String[] args) {
        prices();
        firstPlaceAnalysisAndCell();
        manyLooks();
        triesOfAllParses();
        noSentences();
        Check.finish();
    }

    private static void mends(Check c, int kind, String sentence, int cost, String due) {
        c.tape(sentence);
        c.due("mend " + sentence, c.x.mend(0, kind), cost);
        c.dueText("mend " + sentence, c.out(), due);
        c.due("there is a forest of " + due, c.x.trees() > 0 ? 1 : 0, 1);
        c.due("with nodes", c.x.count(0, 5) > 0 ? 1 : 0, 1);
    }

    private static void mendsNot(Check c, int kind, String sentence, int answer) {
        c.tape("the dog runs");
        c.x.parse(0, 6);
        c.x.cell(0, 0, 0);
        c.tape(sentence);
        c.givesNone("mend " + sentence, c.x.mend(0, kind), answer);
        c.due("no forest", c.x.trees(), 0);
        c.due("no price", c.x.price(0), -1);
        c.due("no nodes", c.x.count(0, 5), 0);
        c.due("no ways", c.x.count(0, 6), 0);
    }

    private static void prices() {
        Check c = Check.full("prices");
        mends(c, 6, "the dog runs", 0, "the dog runs");
        mends(c, 6, " the   dog runs ", 0, "the dog runs");
        mends(c, 6, "the dog run", 1, "the dogs run");
        c.due("trees", c.x.trees(), 1);
        c.due("price", c.x.price(0), 0);
        c.due("reading", c.x.reading(0, 0), 6);
        c.gives("show", c.x.show(0), "pred(det(the,dog),iv(run))");
        mends(c, 6, "dog the runs", 2, "the dog runs");
        mends(c, 6, "the dog runs runs", 3, "the dog runs");
        mends(c, 6, "zebra the dog runs", 3, "the dog runs");
        mends(c, 6, "every dogs run", 3, "dogs run");
        mends(c, 6, "dog run", 1, "dogs run");
        mends(c, 6, "the cat sees dog", 1, "the cat sees dogs");
        mends(c, 6, "the dog cat runs", 3, "the cat runs");
        mends(c, 0, "dog", 0, "dog");
        mends(c, 4, "dog", 1, "dogs");
        mendsNot(c, 1, "dog", -1);
        mendsNot(c, 6, "dog", -1);
        mendsNot(c, 6, "zebra", -1);
        mendsNot(c, 6, "the the the", -1);
        // A mend bars none.
        c.tape("the dog runs");
        c.x.parse(0, 6);
        c.x.bar(0, true);
        mends(c, 6, "the dog run", 1, "the dogs run");
        c.refuses("no such tongue", () -> c.x.mend(2, 6));
        c.refuses("no such kind", () -> c.x.mend(0, 7));
        c.refuses("no such kind", () -> c.x.mend(0, -1));
        c.dueText("what throws leaves OUT", c.out(), "the dogs run");
        c.due("and the forest", c.x.trees(), 1);
    }

    private static void firstPlaceAnalysisAndCell() {
        Check c = new Check("first place, analysis and cell");
        c.done("kind n; kind s; fun x : > n; fun y : > n; fun t : n > s; fun u : n n > s; tongue g; feature f = i j k; feature h = l m;", 9);
        c.done("pattern p { i = 1, k l = 1 + 'k', k m = 1 + 'kk', j = 1 + 'j' }; pattern q { k = 1 + 'q', i = 1, j l = - };", 2);
        c.done("word y q 'o'; word x p 'o'; lin t = 'z' 1[k]; lin t = 'w' 1[j]; lin t = 'v' 1[k m]; lin t = 'kk' 1[i];", 6);
        mends(c, 1, "z o", 1, "z oq");
        mends(c, 1, "w o", 1, "w oj");
        mends(c, 1, "v o", 1, "v oq");
        mends(c, 1, "z oj", 1, "z ok");
        mends(c, 1, "v oj", 1, "v okk");
        // y has no other form that fits; the first CELL of x is no other form for ok.
        mends(c, 1, "w ok", 1, "w oj");
        // Both words can be changed: the first one is.
        c.done("lin u = 1[k] 2[i]; lin u = 1[i] 2[k];", 2);
        mends(c, 1, "o o", 1, "oq o");
        mends(c, 1, "oq oq", 1, "o oq");
        // The first two neighbours, and the first word that goes.
        c.done("fun e : n > s; lin e = 'p' 'q' 1; lin e = 'q' 1 'p'; lin e = 'a' 1; lin e = 'b' 1;", 5);
        mends(c, 1, "q p o", 2, "p q o");
        mends(c, 1, "b a o", 3, "a o");
        mends(c, 1, "a o b", 3, "a o");
    }

    /** A house with an o that has so many changes by 43 WORDS with 24 CELLS and one more WORD with these. */
    private static Check looksOf(String name, int cells) {
        Check c = new Check(name);
        c.done("kind n; kind s; fun x : > n; fun y : > s; tongue g; feature f = a1 a2 a3 a4 a5 a6; feature g = b1 b2 b3 b4; pattern one { = 1 };", 8);
        StringBuilder few = new StringBuilder("pattern few { a1 b1 = 1");
        StringBuilder all = new StringBuilder("pattern all of few { ");
        for (int i = 1; i < 24; i++) {
            (i < cells ? few : all).append(i == cells ? "" : ", ");
            (i < cells ? few : all).append("a" + (i % 6 + 1) + " b" + (i / 6 + 1) + " = 1 + 'x'");
        }
        c.done(few + " };", 1);
        c.done(all + " };", 1);
        for (int i = 0; i < 43; i++) {
            c.done("word x all 'o';", 1);
        }
        c.done("word x few 'o'; pattern none of one { = - }; word x none 'o'; word y one 'u';", 4);
        return c;
    }

    private static void manyLooks() {
        // 43 * 23 + 8 changes of the o, one of neighbours, and the second of those that leave a word out: 1000.
        Check c = looksOf("1000 looks", 9);
        mends(c, 1, "u o", 3, "u");
        c.tape("u o");
        c.due("again", c.x.mend(0, 1), 3);
        Check d = looksOf("1001 looks", 10);
        d.tape("u o");
        d.givesNone("1001 looks", d.x.mend(0, 1), -1);
        d.due("no forest", d.x.trees(), 0);
        // Here the first of those that leave a word out is the right one.
        mends(d, 1, "o u", 3, "u");
    }

    private static void triesOfAllParses() {
        Check c = new Check("tries of all parses");
        c.done("kind n; kind s; fun x : > n; fun y : n n n n > s; fun r : n > s; tongue g;", 6);
        c.done("feature f = a1 a2 a3 a4 a5 a6; feature g = b1 b2 b3 b4; feature h = c1 c2;", 3);
        int made = 0;
        String parent = "";
        for (int size : new int[] {10, 19, 20, 21, 24}) {
            StringBuilder cells = new StringBuilder();
            for (; made < size; made++) {
                cells.append(cells.length() == 0 ? "" : ", ").append("a" + (made % 6 + 1) + " b" + (made / 6 + 1) + " = 1");
            }
            c.done("pattern p" + size + parent + " { " + cells + " };", 1);
            parent = " of p" + size;
        }
        c.done("word x p10 'a'; word x p19 'b'; word x p21 'c'; word x p24 'd'; word x p20 'e';", 5);
        c.done("lin y = 1[c1] 2[c2] 3 4, agree 1 2 h; lin r = 'a' 'b' 1;", 2);
        // Each of the first four parses has some 84000 TRIES, with d some 100000.
        mends(c, 1, "a b c e", 3, "a b e");
        c.tape("a b c d");
        c.due("one parse is fine", c.x.parse(0, 1), 0);
        c.tape("a b c d");
        c.givesNone("all of them are not", c.x.mend(0, 1), -1);
        c.due("no forest", c.x.trees(), 0);
        c.due("no nodes", c.x.count(0, 5), 0);
        mends(c, 1, "a b c e", 3, "a b e");
    }

    private static void noSentences() {
        Check c = Check.full("no sentences");
        for (String none : new String[] {"", "  ", "the dog, runs", "Dog", Check.times("a", 25), Check.times("dog ", 13), Check.times("dog ", 25)}) {
            mendsNot(c, 6, none, -3);
        }
        mendsNot(c, 6, Check.times("dog ", 12), -1);
        mends(c, 6, "the dog and the dog and the dog and the dog runs", 1, "the dog and the dog and the dog and the dog run");
    }
}
