/** Promises 19 (tree), 20 (show), 21 (same) and 22 (say). */
public final class TreeTest {
    public static void main(String[] args) {
        treesAreRead();
        wrongTokens();
        sixtyFuns();
        same();
        saying();
        sayingInOrder();
        twentyFourOptions();
        agreement();
        longTexts();
        Check.finish();
    }

    private static int plant(Check c, int place, String tree) {
        c.tape(tree);
        return c.x.tree(place);
    }

    private static void treesAreRead() {
        Check c = Check.full("trees");
        c.due("tree", plant(c, 0, "dog"), 1);
        c.gives("show", c.x.show(0), "dog");
        c.due("tree with blanks", plant(c, 7, "  pred ( det( the , dog ),iv(run) ) "), 6);
        c.gives("show", c.x.show(7), "pred(det(the,dog),iv(run))");
        c.gives("show of the other place", c.x.show(0), "dog");
        c.givesNone("show of an empty place", c.x.show(3), -1);
        for (int place : new int[] {-1, 8}) {
            c.refuses("tree", () -> c.x.tree(place));
            c.refuses("show", () -> c.x.show(place));
            c.refuses("same", () -> c.x.same(place, 0) ? 1 : 0);
            c.refuses("same", () -> c.x.same(0, place) ? 1 : 0);
            c.refuses("say", () -> c.x.say(0, place, 0));
            c.refuses("mean", () -> c.x.mean(place));
            c.refuses("truth", () -> c.x.truth(place));
        }
        c.refuses("say in no tongue", () -> c.x.say(2, 0, 0));
        c.refuses("say in tongue -1", () -> c.x.say(-1, 0, 0));
        c.due("what throws leaves OUT", c.x.show(0), 3);
        c.refuses("say", () -> c.x.say(2, 0, 0));
        c.dueText("OUT", c.out(), "dog");
    }

    private static void wrong(Check c, String marked) {
        int at = marked.indexOf('^');
        c.due("tree of " + marked, plant(c, 0, marked.substring(0, at) + marked.substring(at + 1)), -1 - at);
        c.gives("the place is as it was after " + marked, c.x.show(0), "dog");
    }

    private static void wrongTokens() {
        Check c = Check.full("wrong tokens");
        plant(c, 0, "dog");
        wrong(c, "^");
        wrong(c, "  ^");
        wrong(c, "^zebra");
        wrong(c, "^1");
        wrong(c, "^(dog)");
        wrong(c, "^?");
        wrong(c, "dog^(");
        wrong(c, "dog ^dog");
        wrong(c, "dog^,dog");
        wrong(c, "det^");
        wrong(c, "det ^the");
        wrong(c, "det(^");
        wrong(c, "det(^)");
        wrong(c, "det(the^)");
        wrong(c, "det(the^");
        wrong(c, "det(the,^");
        wrong(c, "det(the,dog^,dog)");
        wrong(c, "det(the,dog^");
        wrong(c, "det(the,dog)^)");
        wrong(c, "det(^dog,dog)");
        wrong(c, "det(the,^the)");
        wrong(c, "det(the,mod(big,^run))");
        wrong(c, "det(the,mod(big,dog)^;");
        wrong(c, "det(the,^det(the,dog))");
        wrong(c, "det(the,^)");
        wrong(c, "det(^,dog)");
        wrong(c, "det(the ^dog)");
    }

    private static void sixtyFuns() {
        Check c = Check.full("sixty funs");
        String deep = Check.times("mod(big,", 29) + "dog" + Check.times(")", 29);
        c.due("59 funs", plant(c, 0, deep), 59);
        c.due("60 funs", plant(c, 0, "bare(" + deep + ")"), 60);
        c.due("show", c.x.show(0), deep.length() + 6);
        String sixtyOne = Check.times("mod(big,", 30) + "dog" + Check.times(")", 30);
        c.due("61 funs", plant(c, 1, sixtyOne), -1 - 8 * 30);
        c.givesNone("no tree", c.x.show(1), -1);
        Check d = new Check("sixty deep");
        d.done("kind n; fun a : > n; fun f : n > n;", 3);
        String chain = Check.times("f(", 59) + "a" + Check.times(")", 59);
        d.due("sixty deep", plant(d, 0, chain), 60);
        d.gives("show", d.x.show(0), chain);
        d.due("61 deep", plant(d, 1, Check.times("f(", 60) + "a"), -1 - 2 * 60);
    }

    private static void same() {
        Check c = Check.full("same");
        plant(c, 0, "mod(big,dog)");
        plant(c, 1, "mod(big,cat)");
        plant(c, 2, " mod( big, dog )");
        plant(c, 3, "mod(big,mod(big,dog))");
        boolean[][] due = {{true, false, true, false, false}, {false, true, false, false, false}, {true, false, true, false, false},
            {false, false, false, true, false}, {false, false, false, false, true}};
        for (int a = 0; a < 5; a++) {
            for (int b = 0; b < 5; b++) {
                c.due("same " + a + " " + b, c.x.same(a, b) ? 1 : 0, due[a][b] ? 1 : 0);
            }
        }
        c.due("none and none", c.x.same(6, 7) ? 1 : 0, 1);
    }

    private static void saying() {
        Check c = Check.full("saying");
        plant(c, 0, "pred(det(the,dog),tv(see,det(the,mod(big,cat))))");
        // The last argument's CELLS change the fastest.
        c.gives("option 0 of en", c.x.say(0, 0, 0), "the dog sees the big cat");
        c.gives("option 1 of en", c.x.say(0, 0, 1), "the dog sees the big cats");
        c.gives("option 2 of en", c.x.say(0, 0, 2), "the dogs see the big cat");
        c.gives("option 3 of en", c.x.say(0, 0, 3), "the dogs see the big cats");
        c.givesNone("option 4 of en", c.x.say(0, 0, 4), -1);
        c.givesNone("option -1", c.x.say(0, 0, -1), -1);
        c.gives("option 0 of es", c.x.say(1, 0, 0), "lo perro vea a lo gato grando");
        c.givesNone("an empty place", c.x.say(0, 1, 0), -1);
        plant(c, 1, "fly");
        c.gives("fly in en", c.x.say(0, 1, 1), "flies");
        c.givesNone("fly in es", c.x.say(1, 1, 0), -1);
        plant(c, 1, "bare(cat)");
        c.gives("bare in es", c.x.say(1, 1, 0), "gatos");
        c.givesNone("bare has one option", c.x.say(1, 1, 1), -1);
        plant(c, 1, "det(every,fly)");
        c.gives("every in en", c.x.say(0, 1, 0), "every fly");
        c.givesNone("every with pl", c.x.say(0, 1, 1), -1);
    }

    private static void sayingInOrder() {
        Check c = new Check("options in order");
        c.done("kind n; kind s; fun x : > n cost 7; fun y : > n; fun t : n n > s cost 3; tongue g; pattern p { = 1, = 1 }; pattern q { = 2 };", 8);
        c.done("feature f = i j; pattern r { i = 1 + 'i', j = 1 + 'j' }; word x r 'a' cost 1; word x q 'b'; word x r 'c';", 5);
        c.done("word y p 'y' cost 2; word y p 'z'; lin t = 1 2 cost 1; lin t = 2 'l' 1;", 4);
        // x: ci, cj (7), ai, aj (8); y: z (0), y (2).
        c.tape("x");
        c.x.tree(0);
        String[] ofX = {"ci", "cj", "ai", "aj"};
        for (int i = 0; i < 4; i++) {
            c.gives("x " + i, c.x.say(0, 0, i), ofX[i]);
        }
        c.givesNone("x 4", c.x.say(0, 0, 4), -1);
        c.tape("t(x,y)");
        c.x.tree(0);
        // Prices without what all have: the second LIN 0, the first 1; z 0, y 2; c 0, a 1.
        String[] due = {"z l ci", "z l cj", "ci z", "cj z", "z l ai", "z l aj", "ai z", "aj z", "y l ci", "y l cj",
            "ci y", "cj y", "y l ai", "y l aj", "ai y", "aj y"};
        for (int i = 0; i < due.length; i++) {
            c.gives("t " + i, c.x.say(0, 0, i), due[i]);
        }
        c.givesNone("t 16", c.x.say(0, 0, 16), -1);
        // A cheap OPTION that comes later takes the place with its own VALUES.
        c.done("fun k : n > s; lin k = 'k' 1[i]; fun m : n > s; lin m = 'm' 1[j];", 4);
        c.tape("m(x)");
        c.x.tree(1);
        c.gives("m 0", c.x.say(0, 1, 0), "m cj");
        c.gives("m 1", c.x.say(0, 1, 1), "m aj");
        c.givesNone("m 2", c.x.say(0, 1, 2), -1);
        c.tape("k(x)");
        c.x.tree(1);
        c.gives("k 0", c.x.say(0, 1, 0), "k ci");
        c.gives("k 1", c.x.say(0, 1, 1), "k ai");
        c.givesNone("k 2", c.x.say(0, 1, 2), -1);
        c.tape("t(y,y)");
        c.x.tree(0);
        // The first ITEM's argument changes slowest, also where it is the second argument.
        c.gives("t(y,y) 2", c.x.say(0, 0, 2), "z l y");
        c.gives("t(y,y) 3", c.x.say(0, 0, 3), "y l z");
    }

    private static void twentyFourOptions() {
        Check c = new Check("24 options");
        c.done("kind n; kind s; fun x : > n; fun t : n n > s; fun u : s > s; tongue g; feature f = a b c d e g; pattern p { a = 1 + 'a', b = 1 + 'b', c = 1 + 'c' };", 8);
        c.done("pattern q { a = 1 + 'a', b = 1 + 'b', c = 1 + 'c', d = 1 + 'd', e = 1 + 'e', g = 1 + 'g' }; word x q 'k' cost 1; word x q 'l';", 3);
        c.done("lin t = 1 2; lin u = 'v' 1;", 2);
        c.tape("t(x,x)");
        c.x.tree(0);
        // 36 with both l come first, of which 24 are kept.
        c.gives("option 0", c.x.say(0, 0, 0), "la la");
        c.gives("option 23", c.x.say(0, 0, 23), "ld lg");
        c.givesNone("option 24", c.x.say(0, 0, 24), -1);
        // What is not kept of an argument does not come back.
        c.done("feature z = m w; fun k : s > s; lin k = 'e' 1[e]; lin t = 1 2, give 1 f;", 4);
        c.tape("k(t(x,x))");
        c.x.tree(0);
        c.gives("none of them has e, but all have none", c.x.say(0, 0, 23), "e ld lg");
        c.done("fun o : n n > s; lin o = 1 2, give 1 f;", 2);
        c.tape("k(o(x,x))");
        c.x.tree(0);
        c.givesNone("those with e are not kept", c.x.say(0, 0, 0), -1);
        c.done("fun j : s > s; lin j = 1[d] 'j';", 2);
        c.tape("j(o(x,x))");
        c.x.tree(0);
        c.gives("those with d are", c.x.say(0, 0, 0), "ld la j");
    }

    private static void agreement() {
        Check c = Check.full("agreement");
        plant(c, 0, "pred(and2(bare(dog),det(every,cat)),iv(run))");
        c.gives("and gives pl", c.x.say(0, 0, 0), "dogs and every cat run");
        c.givesNone("alone", c.x.say(0, 0, 1), -1);
        plant(c, 0, "pred(det(every,dog),iv(run))");
        c.gives("sg", c.x.say(0, 0, 0), "every dog runs");
        c.givesNone("alone", c.x.say(0, 0, 1), -1);
        c.givesNone("es has no every", c.x.say(1, 0, 0), -1);
    }

    private static void longTexts() {
        Check c = new Check("long texts");
        c.done("kind n; fun x : > n; fun y : > n; fun t : n n > n; fun u : n n > n; fun v : n n > n; tongue g; pattern p { = 1 + 1 };", 8);
        c.done("word x p 'abcdefghijkl'; word y p 'mnopqrstuvwx'; word y p 'abcdefghijk' cost 3; lin t = 1 2; lin u = 1 'z' 2; lin v = 1 2 cost 9;", 6);
        String x = "abcdefghijklabcdefghijkl";
        // Eight words of 24 letters and seven blanks are 199 bytes.
        String eight = Check.times("t(x,", 7) + "x" + Check.times(")", 7);
        plant(c, 0, eight);
        c.gives("199 bytes", c.x.say(0, 0, 0), Check.times(x + " ", 7) + x);
        plant(c, 0, "u(x," + Check.times("t(x,", 6) + "x" + Check.times(")", 7));
        c.givesNone("201 bytes", c.x.say(0, 0, 0), -1);
        Check d = new Check("200 bytes");
        d.done("kind n; fun x : > n; fun t : n n > n; tongue g; pattern p { = 1 + 1 }; word x p 'abcdefghijkl'; lin t = 1 2;", 7);
        d.done("fun w : n n > n; lin w = 1 'zzzz' 2; fun o : > n; pattern one { = 1 }; word o one 'abcdefghijkl';", 5);
        // Seven words of 24 letters, one of 12, a z of 4 and eight blanks are 192 bytes; eight more are 200.
        d.done("fun e : n > n; lin e = 'abcdefg' 1; fun i : n > n; lin i = 'abcdefgh' 1;", 4);
        String said = "abcdefghijkl zzzz " + Check.times(x + " ", 6) + x;
        plant(d, 0, "e(w(o," + Check.times("t(x,", 6) + "x" + Check.times(")", 8));
        d.gives("200 bytes", d.x.say(0, 0, 0), "abcdefg " + said);
        plant(d, 0, "i(w(o," + Check.times("t(x,", 6) + "x" + Check.times(")", 8));
        d.givesNone("201 bytes", d.x.say(0, 0, 0), -1);
        plant(c, 0, "u(y," + Check.times("t(x,", 6) + "x" + Check.times(")", 7));
        c.gives("the shorter one alone", c.x.say(0, 0, 0), "abcdefghijkabcdefghijk z " + Check.times(x + " ", 6) + x);
        c.givesNone("no other", c.x.say(0, 0, 1), -1);
        plant(c, 0, "t(" + eight + ",x)");
        c.givesNone("224 bytes", c.x.say(0, 0, 0), -1);
    }
}
