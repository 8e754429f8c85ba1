/** Promises 25 (swap) and 26 (candidate). */
public final class SwapTest {
    public static void main(String[] args) {
        swapped();
        inOrder();
        passedOver();
        below();
        Check.finish();
    }

    private static void swapped() {
        Check c = Check.full("swap");
        c.tape("the dog sees the big cats");
        c.due("swap", c.x.swap(0, 6, 1), 1);
        c.gives("candidate 0", c.x.candidate(0), "lo perro vea a lo gato grando");
        c.givesNone("candidate 1", c.x.candidate(1), -1);
        c.givesNone("candidate -1", c.x.candidate(-1), -1);
        c.due("the forest is its one", c.x.trees(), 1);
        c.due("price", c.x.price(0), 3);
        c.due("reading", c.x.reading(0, 2), 11);
        c.tape("dogs and cats and dogs and cats run");
        c.due("swap of several readings", c.x.swap(0, 6, 1), 1);
        c.gives("all are said alike", c.x.candidate(0), "perros y gatos y perros y gatos corran");
        c.due("trees", c.x.trees(), 5);
        c.x.bar(14, true);
        c.tape("perros y gatos corran");
        c.due("swap back", c.x.swap(1, 6, 0), 1);
        c.gives("candidate", c.x.candidate(0), "dogs and cats run");
        c.due("a swap bars none", c.x.trees(), 1);
        c.tape("perros y gatos corran");
        c.due("swap to itself", c.x.swap(1, 6, 1), 1);
        c.tape("the fly runs");
        c.due("es has no fly", c.x.swap(0, 6, 1), 0);
        c.givesNone("none", c.x.candidate(0), -1);
        c.due("but there is a forest", c.x.trees(), 1);
        c.tape("dog");
        c.due("as a noun", c.x.swap(0, 0, 1), 1);
        c.gives("candidate", c.x.candidate(0), "perro");
        for (int t : new int[] {-1, 2}) {
            c.refuses("no such tongue", () -> c.x.swap(t, 6, 1));
            c.refuses("no such other", () -> c.x.swap(0, 6, t));
        }
        c.refuses("no such kind", () -> c.x.swap(0, 7, 1));
        c.refuses("no such kind", () -> c.x.swap(0, -1, 1));
        c.gives("what throws leaves them", c.x.candidate(0), "perro");
    }

    private static void inOrder() {
        Check c = new Check("candidates in order");
        c.done("kind s; fun x : > s cost 2; fun y : > s; fun z : > s cost 1; fun w : > s cost 1; fun v : > s cost 3; tongue g; pattern p { = 1 };", 8);
        c.done("word x p 'o'; word y p 'o'; word z p 'o'; word w p 'o'; word v p 'o';", 5);
        c.done("tongue h; pattern p { = 1 }; word x p 'x'; word y p 'dear' cost 5; word y p 'y'; word z p 'same'; word w p 'same'; word v p 'y';", 8);
        c.tape("o");
        c.due("swap", c.x.swap(0, 0, 1), 3);
        c.gives("the cheapest first", c.x.candidate(0), "y");
        c.gives("then z and w", c.x.candidate(1), "same");
        c.gives("then x", c.x.candidate(2), "x");
        c.givesNone("v is there already", c.x.candidate(3), -1);
        // Only the first 16 READINGS are swapped.
        c.done("kind t; fun two : s s > t; tongue g; lin two = 1 2; tongue h; lin two = 2 1;", 6);
        c.tape("o o");
        c.due("swap of two", c.x.swap(0, 1, 1), 8);
        c.gives("the first", c.x.candidate(0), "y y");
        c.due("trees", c.x.trees(), 25);
    }

    private static void passedOver() {
        Check c = new Check("passed over");
        c.done("kind a; kind b; kind c; kind d; kind s; fun x : > a; fun p : a > b; fun q : b > c; fun r : c > d; fun t : d d > s; fun u : s d > s; fun k : s > s; tongue g;", 13);
        c.done("pattern m { = 1 }; word x m 'o'; lin p = 1; lin q = 1; lin r = 1; lin t = 1 2; lin u = 1 2; lin k = 'o' 1;", 8);
        // 12 words: 4 FUNS each and 11 are 59; 13 are 64, but k can take some of them.
        c.tape(Check.times("o ", 12));
        c.due("59 funs", c.x.swap(0, 4, 0), 1);
        c.tape(Check.times("o ", 13));
        c.due("some are passed over, others said", c.x.swap(0, 4, 0), 1);
        c.gives("candidate", c.x.candidate(0), Check.times("o ", 12) + "o");
        c.due("the first reading is too long", c.x.reading(0, 0), -2);
        Check e = new Check("200 bytes");
        e.done("kind n; kind s; fun x : > n; fun t : n n n n > s; tongue g; pattern p { = 1 + 1 }; word x p 'abcdefghijkl'; lin t = 1 2 3 4;", 8);
        e.done("fun u : s s > s; lin u = 1 2; fun v : s > s; tongue h; pattern p { = 1 + 1 }; word x p 'abcdefghijkl'; lin t = 1 2 3 4; lin u = 1 2; lin v = 'z' 1;", 9);
        e.done("tongue g; lin v = 'o' 1; fun w : s s > s; lin w = 1 'o' 2; tongue h; lin w = 1 'z' 2;", 6);
        String x = "abcdefghijklabcdefghijkl";
        e.tape(Check.times(x + " ", 8));
        e.due("199 bytes", e.x.swap(0, 1, 1), 1);
        e.gives("candidate", e.x.candidate(0), Check.times(x + " ", 7) + x);
        e.tape("o " + Check.times(x + " ", 8));
        e.due("201 bytes", e.x.swap(0, 1, 1), 0);
        e.due("but there are readings", e.x.trees(), 2);
        e.done("fun z : > n; tongue g; pattern q { = 1 }; word z q 'e'; tongue h; pattern m { = 1 + 2 }; word z m 'abcdefghijkl' 'abcdefghijk';", 7);
        e.tape("o e " + Check.times(x + " ", 7));
        e.due("200 bytes", e.x.swap(0, 1, 1), 1);
        e.gives("candidate", e.x.candidate(0), "z abcdefghijklabcdefghijk " + Check.times(x + " ", 6) + x);
        Check d = new Check("all passed over");
        d.done("kind a; kind b; kind c; kind d; kind s; fun x : > a; fun p : a > b; fun q : b > c; fun r : c > d; fun t : d d > s; fun u : s d > s; tongue g;", 12);
        d.done("pattern m { = 1 }; word x m 'o'; lin p = 1; lin q = 1; lin r = 1; lin t = 1 2; lin u = 1 2;", 7);
        d.tape(Check.times("o ", 13));
        d.due("64 funs", d.x.swap(0, 4, 0), 0);
        d.due("trees", d.x.trees(), 1);
        d.due("reading", d.x.reading(0, 0), -2);
    }

    private static void below() {
        Check c = Check.full("below 0");
        c.tape("the dog runs");
        c.x.swap(0, 6, 1);
        c.tape("the dog, runs");
        c.due("no sentence", c.x.swap(0, 6, 1), -3);
        c.givesNone("no candidate is left", c.x.candidate(0), -1);
        c.due("no forest", c.x.trees(), 0);
        c.due("no nodes", c.x.count(0, 5), 0);
        c.tape("the dog run");
        c.due("no reading", c.x.swap(0, 6, 1), 0);
        c.due("no forest", c.x.trees(), 0);
        c.done("tongue en; fun and3 : np np > np; lin and3 = 1 2; lin and3 = 2 1; lin and2 = 1 2; lin and2 = 2 1;", 6);
        c.tape("dogs run");
        c.due("swap", c.x.swap(0, 6, 1), 1);
        c.tape(Check.times("dogs ", 24));
        c.due("too much of it", c.x.swap(0, 4, 1), -1);
        c.givesNone("no candidate is left", c.x.candidate(0), -1);
    }
}
