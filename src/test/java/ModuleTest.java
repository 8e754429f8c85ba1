/** Promises 4 (module), 5 (rule), 7 (number) and 31 (count): STATEMENTS, the RULES 1 to 6 and the byte that module() tells. */
public final class ModuleTest {
    public static void main(String[] args) {
        tokens();
        noneIsDone();
        withoutTongue();
        kindsAndFuns();
        features();
        lettersAndSounds();
        patterns();
        words();
        lins();
        linsOfOneItem();
        means();
        meanDepth();
        thingsAndFacts();
        wordsOfTheirOwn();
        numbers();
        counts();
        everyBeginning();
        Check.finish();
    }

    private static void tokens() {
        Check c = new Check("tokens");
        c.done("", 0);
        c.done("   ", 0);
        c.done("  kind  n  ;kind m;", 2);
        c.wrongAt("^;", 1);
        c.wrongAt("^12;", 1);
        c.wrongAt("^verb x;", 1);
        c.wrongAt("kind ^;", 1);
        c.wrongAt("kind ^5;", 1);
        c.wrongAt("kind x ^y;", 1);
        c.wrongAt("kind x^", 1);
        c.wrongAt("kind x  ^", 1);
        c.wrongAt("kind^", 1);
        c.wrongAt("kind ^X;", 1);
        c.wrongAt("^?", 1);
        c.wrongAt("kind x; ^?", 1);
        c.wrongAt("kind abcdefgh^i;", 1);
        c.done("kind abcdefg8;", 1);
        c.wrongAt("kind a1 ^1;", 1);
        c.wrongAt("^kindq;", 1);
        c.wrongAt("fun f : > n cost ^123456 7;", 5);
        c.wrongAt("fun f : > n cost 0^x;", 1);
        c.wrongAt("fun f : > n cost 000001^2;", 1);
        c.done("tongue t; letters two = 'abcdefghijkl';", 2);
        c.wrongAt("letters l = ^'abcdefghijklm';", 1);
        c.wrongAt("letters l = ^'ab", 1);
        c.wrongAt("letters l = ^'aB';", 1);
        c.wrongAt("letters l = ^'a b';", 1);
        c.done("letters l = '';", 1);
        // A byte that begins no TOKEN is only wrong when it is come to.
        c.wrongAt("kind ^n; ?", 4);
    }

    private static void noneIsDone() {
        Check c = new Check("none is done");
        c.done("kind n;", 1);
        c.wrongAt("kind zz; tongue t; feature f = a b; fun x : > n; mean x = y; thing rex; fact y rex; kind ^n;", 4);
        c.due("kinds", c.x.count(0, 1), 1);
        c.due("funs", c.x.count(0, 2), 0);
        c.due("tongues", c.x.count(0, 0), 0);
        c.due("things", c.x.count(0, 3), 0);
        c.due("facts", c.x.count(0, 4), 0);
        c.wrongAt("^feature f = a b;", 3);
        c.done("tongue t; fun x : > n; pattern p { = 1 }; word x p 'a';", 4);
        c.wrongAt("feature f = a b; letters l = 'a'; sound 'a' > 'b'; pattern q { = 1 }; word x q 'b'; mean x = y; tongue u^", 1);
        for (int what = 8; what <= 11; what++) {
            c.due("count " + what, c.x.count(0, what), 0);
        }
        c.due("patterns", c.x.count(0, 12), 1);
        c.due("words", c.x.count(0, 13), 1);
        c.due("tongues", c.x.count(0, 0), 1);
        // The tongue that was meant ahead is still meant, the FUN still without a meaning, and the form has no new sound.
        c.done("mean x = z; feature f = a b; letters l = 'c';", 3);
        c.due("features of t", c.x.count(0, 8), 1);
        c.due("cell", c.x.cell(0, 0, 0), 1);
        c.due("its letter", c.x.out(0), 'a');
        c.refuses("u was not made", () -> c.x.count(1, 8));
        c.refuses("u was not made", () -> c.x.sounds(1));
        // A tongue that was not made is another one when it is made.
        c.done("tongue u;", 1);
        c.due("features of u", c.x.count(1, 8), 0);
        c.done("", 0);
    }

    private static void withoutTongue() {
        Check c = new Check("without a tongue");
        c.wrongAt("^feature", 3);
        c.wrongAt("kind n; ^letters x = 'a';", 3);
        c.wrongAt("^sound ?", 3);
        c.wrongAt("^pattern p { = 1 };", 3);
        c.wrongAt("^word x p 'a';", 3);
        c.wrongAt("^lin f = 1;", 3);
        c.done("kind n; fun f : > n; mean f = x; thing a; fact b a;", 5);
        for (int i = 0; i < 8; i++) {
            c.done("tongue t" + i + ";", 1);
        }
        c.wrongAt("tongue t3; ^tongue t8;", 2);
        c.done("tongue t3;", 1);
        c.due("tongues", c.x.count(0, 0), 8);
        c.wrongAt("tongue ^;", 1);
    }

    private static void kindsAndFuns() {
        Check c = new Check("kinds and funs");
        c.done("kind n; kind s;", 2);
        c.wrongAt("kind ^n", 4);
        c.done("fun f0 : > n; fun f4 : n s n s > n cost 10000;", 2);
        c.wrongAt("fun ^f0 ?", 4);
        c.wrongAt("fun f ^> n;", 1);
        c.wrongAt("fun f ^kind zz;", 1);
        c.wrongAt("fun f : n ^; kind zz;", 1);
        c.wrongAt("fun f : n s n s ^n > n;", 5);
        c.wrongAt("fun f : n s n s ^zz > n;", 5);
        c.wrongAt("fun f : n ^zz > n;", 5);
        c.wrongAt("fun f : n > ^zz;", 5);
        c.wrongAt("fun f : n > ^;", 1);
        c.wrongAt("fun f : n ^;", 1);
        c.wrongAt("fun f : n > s ^n;", 1);
        c.wrongAt("fun f : n > s cost ^10001;", 5);
        c.wrongAt("fun f : n > s cost ^n;", 1);
        c.wrongAt("fun f : n > s cost ^;", 1);
        c.wrongAt("fun f : ^f", 5);
        Check d = new Check("32 kinds and 96 funs");
        StringBuilder kinds = new StringBuilder();
        for (int i = 0; i < 32; i++) {
            kinds.append("kind k" + i + ";");
        }
        d.done(kinds.toString(), 32);
        d.wrongAt("^kind k32;", 2);
        d.wrongAt("kind ^k31;", 4);
        d.wrongAt("kind k32 ^?", 1);
        for (int i = 0; i < 3; i++) {
            StringBuilder funs = new StringBuilder();
            for (int k = 0; k < 32; k++) {
                funs.append("fun f" + (32 * i + k) + ":>k" + k + ";");
            }
            d.done(funs.toString(), 32);
        }
        d.wrongAt("  ^fun x : > k0;", 2);
        d.wrongAt("fun ^f95 : > k0;", 4);
        d.due("funs", d.x.count(0, 2), 96);
    }

    private static void features() {
        Check c = new Check("features");
        c.done("tongue t; feature f = a b c d e g;", 2);
        c.wrongAt("feature ^f = x y;", 4);
        c.wrongAt("feature h = ^x;", 5);
        c.wrongAt("feature h = x ^5;", 1);
        c.wrongAt("feature h = x ^= y;", 1);
        c.wrongAt("feature h = x ^'y';", 1);
        c.wrongAt("feature h = x^", 1);
        c.wrongAt("feature h = x   ^", 1);
        c.wrongAt("feature h = x ^?;", 1);
        c.wrongAt("feature h = x^?", 1);
        c.wrongAt("feature h = x ^'y;", 1);
        c.wrongAt("feature h = ^x ; ?", 5);
        c.wrongAt("feature h = ^;", 1);
        c.wrongAt("feature h ^;", 1);
        c.wrongAt("feature h = x ^a;", 4);
        c.wrongAt("feature h = x y ^x;", 4);
        c.wrongAt("feature h = ^a;", 4);
        c.wrongAt("feature h = x1 x2 x3 x4 x5 x6 ^x7;", 5);
        c.wrongAt("feature h = x y ^= ;", 1);
        c.wrongAt("feature h = x y^", 1);
        for (int i = 1; i < 8; i++) {
            c.done("feature f" + i + " = a" + i + " b" + i + ";", 1);
        }
        c.wrongAt("^feature f8 = a8 b8;", 2);
        c.wrongAt("feature f8 = ^a7 b8;", 4);
        c.due("features", c.x.count(0, 8), 8);
        c.due("values", c.x.count(0, 9), 20);
        c.done("pattern p { a a1 a2 a3 a4 a5 a6 a7 = 1 };", 1);
        c.wrongAt("pattern q { a a1 a2 a3 a4 a5 a6 a7 ^b7 = 1 };", 5);
        c.wrongAt("pattern q { a a1 a2 a3 a4 a5 a6 a7 ^zz = 1 };", 5);
        // Another TONGUE has VALUES of its own.
        c.done("tongue u; feature f = a b;", 2);
    }

    private static void lettersAndSounds() {
        Check c = new Check("letters and sounds");
        c.done("tongue t; letters v = 'aei'; letters none = '';", 3);
        c.wrongAt("letters ^v = 'x';", 4);
        c.wrongAt("letters w ^'x';", 1);
        c.wrongAt("letters w = ^v;", 1);
        c.done("sound 'a' > ''; sound 'abc' > 'abcdefghijkl' / _; sound v > 'x' / # v 'b' _ '' # none;", 3);
        c.wrongAt("sound ^'' > 'a';", 5);
        c.wrongAt("sound ^'abcd' > 'a';", 5);
        c.wrongAt("sound ^w > 'a';", 5);
        c.wrongAt("sound ^# > 'a';", 1);
        c.wrongAt("sound 'a' ^'b';", 1);
        c.wrongAt("sound 'a' > ^v;", 1);
        c.wrongAt("sound 'a' > 'b' ^_;", 1);
        c.wrongAt("sound 'a' > 'b' / # ^;", 1);
        c.wrongAt("sound 'a' > 'b' / ^w _;", 5);
        c.wrongAt("sound 'a' > 'b' / _ ^w;", 5);
        c.wrongAt("sound 'a' > 'b' / # v 'a' ^# _;", 5);
        c.wrongAt("sound 'a' > 'b' / _ # v 'a' ^'b';", 5);
        c.wrongAt("sound 'a' > 'b' / _ # ^_;", 1);
        for (int i = 3; i < 24; i++) {
            c.done("sound 'a' > 'b';", 1);
        }
        c.wrongAt("^sound 'a' > 'b';", 2);
        for (int i = 2; i < 16; i++) {
            c.done("letters c" + i + " = 'a';", 1);
        }
        c.wrongAt("^letters c16 = 'a';", 2);
        c.due("classes", c.x.count(0, 10), 16);
        c.due("sounds", c.x.count(0, 11), 24);
    }

    private static void patterns() {
        Check c = new Check("patterns");
        c.done("tongue t; feature f = a b; feature g = c d; pattern p { = 1, a = 2 + 'x', a c = 3 + '' + 1, b = - };", 4);
        c.wrongAt("pattern ^p { = 1 };", 4);
        c.wrongAt("pattern q ^p;", 1);
        c.wrongAt("pattern q of ^r { = 1 };", 5);
        c.wrongAt("pattern q of ^q { = 1 };", 5);
        c.wrongAt("pattern q of ^{ = 1 };", 1);
        c.wrongAt("pattern q { ^};", 1);
        c.wrongAt("pattern q { a ^};", 1);
        c.wrongAt("pattern q { = ^};", 1);
        c.wrongAt("pattern q { = ^0 };", 5);
        c.wrongAt("pattern q { = ^4 };", 5);
        c.wrongAt("pattern q { = 1 + ^, };", 1);
        c.wrongAt("pattern q { = - ^+ 1 };", 1);
        c.wrongAt("pattern q { = 1 ^- };", 1);
        c.wrongAt("pattern q { ^e = 1 };", 5);
        c.wrongAt("pattern q { a ^b = 1 };", 5);
        c.wrongAt("pattern q { a ^a = 1 };", 5);
        c.wrongAt("pattern q { = 1, ^};", 1);
        c.wrongAt("pattern q { = 1 } ^}", 1);
        c.wrongAt("pattern q { = 1 ^;", 1);
        c.done("kind n; fun x : > n; pattern q of p { c a = 1, d = 1 }; word x p 'm'; word x q 'n' 'o';", 5);
        c.gives("cell 0", c.x.cell(0, 1, 0), "n");
        c.gives("cell 1", c.x.cell(0, 1, 1), "ox");
        c.gives("cell 2 is another one", c.x.cell(0, 1, 2), "n");
        c.givesNone("cell 3", c.x.cell(0, 1, 3), -1);
        c.gives("cell 4 is new", c.x.cell(0, 1, 4), "n");
        c.refuses("cell 5", () -> c.x.cell(0, 1, 5));
        c.givesNone("cell 1 of a word with one stem", c.x.cell(0, 0, 1), -1);
        c.refuses("cell 4 of the first", () -> c.x.cell(0, 0, 4));
        tooManyCells();
        tooManyPatterns();
    }

    private static void tooManyCells() {
        Check c = new Check("too many cells");
        StringBuilder cells = new StringBuilder();
        c.done("tongue t; feature f = a1 a2 a3 a4 a5 a6; feature g = b1 b2 b3 b4;", 3);
        for (int i = 1; i <= 6; i++) {
            for (int k = 1; k <= 4; k++) {
                cells.append(i + k == 2 ? "" : ",").append(" a" + i + " b" + k + " = 1");
            }
        }
        c.done("pattern p {" + cells + ", b4 a6 = 2 };", 1);
        c.wrongAt("^pattern q {" + cells + ", = 1 };", 2);
        c.wrongAt("^pattern q of p { a1 = 1 };", 2);
        c.wrongAt("pattern q of p { a1 = 1, = 1, a2 = 1, a1 ^a2 = 1 };", 5);
        c.done("pattern q of p { a1 b1 = 2 };", 1);
    }

    private static void tooManyPatterns() {
        Check c = new Check("too many patterns");
        c.done("tongue t;", 1);
        for (int i = 0; i < 24; i++) {
            c.done("pattern p" + i + " { = 1 };", 1);
        }
        c.wrongAt("^pattern p24 { = 1 };", 2);
        c.wrongAt("pattern ^p3 { = 1 };", 4);
        c.due("patterns", c.x.count(0, 12), 24);
        c.done("tongue u; pattern p24 { = 1 };", 2);
    }

    private static void words() {
        Check c = new Check("words");
        c.done("kind n; fun x : > n; fun y : n > n; tongue t; feature f = a b; feature g = c d; pattern p { = 1 };", 7);
        c.done("word x p 'a'; word x p 'a' 'b' 'c' has a d cost 10000; word x p '' has b;", 3);
        c.wrongAt("word ^z p 'a';", 5);
        c.wrongAt("word ^y p 'a';", 5);
        c.wrongAt("word x ^q 'a';", 5);
        c.wrongAt("word x p ^;", 1);
        c.wrongAt("word x p ^has a;", 1);
        c.wrongAt("word x p 'a' 'b' 'c' ^'d';", 1);
        c.wrongAt("word x p 'a' ^p;", 1);
        c.wrongAt("word x p 'a' has ^;", 1);
        c.wrongAt("word x p 'a' has ^e;", 5);
        c.wrongAt("word x p 'a' has a ^b;", 5);
        c.wrongAt("word x p 'a' has a ^has;", 5);
        c.wrongAt("word x p 'a' has ^cost 3;", 5);
        c.wrongAt("word x p 'a' cost ^10001;", 5);
        c.wrongAt("word x p 'a' cost 3 ^has a;", 1);
        c.wrongAt("word x p 'a' has a cost 3 ^4;", 1);
        for (int i = 3; i < 64; i++) {
            c.done("word x p 'a';", 1);
        }
        c.wrongAt("^word x p 'a';", 2);
        c.due("words", c.x.count(0, 13), 64);
        c.done("tongue u; pattern p { = 1 }; word x p 'a';", 3);
    }

    private static void lins() {
        Check c = new Check("lins");
        c.done("kind n; kind s; fun w : > n; fun f : n > s; fun g : n s > n; fun h : n n n n > s; tongue t;", 7);
        c.done("feature q = a b; feature r = c d;", 2);
        c.done("lin h = 4 'x' 3[a] 2 1[d b] 'y', agree 1 2 q, give 1 q, agree 2 2 r, give a, give c, agree 4 1 q cost 10000;", 1);
        c.wrongAt("lin ^w = 1;", 5);
        c.wrongAt("lin ^z = 1;", 5);
        c.wrongAt("lin g ^1 2;", 1);
        c.wrongAt("lin g ^kind zz;", 1);
        c.wrongAt("lin g = ^;", 1);
        c.wrongAt("lin g = ^a;", 1);
        c.wrongAt("lin g = 1 ^0;", 5);
        c.wrongAt("lin g = 1 ^3;", 5);
        c.wrongAt("lin g = 1 2 ^1;", 5);
        c.wrongAt("lin g = ^'' 1 2;", 5);
        c.wrongAt("lin g = 1 2 'a' 'b' 'c' 'd' ^'e';", 5);
        c.wrongAt("lin g = 1 2 'a' 'b' 'c' 'd' ^2;", 5);
        c.wrongAt("lin g = 'a' ^[a] 1 2;", 1);
        c.wrongAt("lin g = 1[^] 2;", 1);
        c.wrongAt("lin g = 1[^e] 2;", 5);
        c.wrongAt("lin g = 1[a ^b] 2;", 5);
        c.wrongAt("lin g = 1[a c ^2;", 1);
        c.wrongAt("lin g = 1 2, ^x;", 1);
        c.wrongAt("lin g = 1 2, ^cost 3;", 1);
        c.wrongAt("lin g = 1 2 cost 4^, give a;", 1);
        c.wrongAt("lin g = 1 2, agree ^q;", 1);
        c.wrongAt("lin g = 1 2, agree ^3 1 q;", 5);
        c.wrongAt("lin g = 1 2, agree 1 ^0 q;", 5);
        c.wrongAt("lin g = 1, agree 1 ^2 q;", 5);
        c.wrongAt("lin g = 1 2, agree 1 2 ^a;", 5);
        c.wrongAt("lin g = 1 2, agree 1 2 ^3;", 1);
        c.wrongAt("lin g = 1 2, give ^;", 1);
        c.wrongAt("lin g = 1 2, give ^7 q;", 5);
        c.wrongAt("lin g = 1 2, give 1 ^a;", 5);
        c.wrongAt("lin g = 1 2, give ^q;", 5);
        c.wrongAt("lin g = 1 2, give 1 q ^q;", 1);
        c.wrongAt("lin g = 1 2, give a, give a, give a, give a, give a, give a, ^give a;", 5);
        c.wrongAt("lin g = 1 2, give a, give a, give a, give a, give a, give a, ^gave a;", 1);
        c.wrongAt("lin g = 1 2 cost ^10001;", 5);
        for (int i = 0; i < 4; i++) {
            c.done("lin g = 1 2;", 1);
        }
        c.wrongAt("^lin g = 1 2;", 2);
        c.wrongAt("lin ^g = 'a' 2;", 6);
        c.due("lins", c.x.count(0, 14), 5);
        c.done("tongue u; lin g = 1 2;", 2);
        c.due("lins of u", c.x.count(1, 14), 1);
    }

    private static void linsOfOneItem() {
        Check c = new Check("lins of one item");
        c.done("kind n; kind s; fun up : n > s; fun level : n > n; fun down : s > n; fun two : n s > s; fun bad : s n > n; tongue t;", 8);
        c.done("lin up = 1; lin up = 'a' 1; lin down = 'a' 1; lin level = 1 'a';", 4);
        c.wrongAt("lin level = ^1;", 6);
        c.wrongAt("lin down = ^1;", 6);
        c.wrongAt("lin ^two = 1;", 6);
        c.wrongAt("lin two = ^2;", 6);
        c.wrongAt("lin bad = ^1;", 6);
        c.wrongAt("lin ^two = 'a' 1;", 6);
        c.wrongAt("lin ^up = 'a';", 6);
        c.wrongAt("lin level = 1^", 1);
        // What is wrong by 1 or 5 comes ahead of 6.
        c.wrongAt("lin level = 1, give ^x;", 5);
    }

    private static void means() {
        Check c = new Check("means");
        c.done("kind n; fun f : > n; fun g : n n > n; fun h : > n; fun i : > n; fun j : > n; mean g = \\x.x(1,2)(2)((\\y.y)(x));", 7);
        c.wrongAt("mean ^g = x;", 4);
        c.wrongAt("mean ^z = x;", 5);
        c.wrongAt("mean f ^x;", 1);
        c.wrongAt("mean f = ^;", 1);
        c.wrongAt("mean f = ^1;", 5);
        c.wrongAt("mean f = \\^1.x;", 1);
        c.wrongAt("mean f = \\x ^y;", 1);
        c.wrongAt("mean f = \\x.^;", 1);
        c.wrongAt("mean f = (x^;", 1);
        c.wrongAt("mean f = (^);", 1);
        c.wrongAt("mean f = x(^);", 1);
        c.wrongAt("mean f = x(y^;", 1);
        c.wrongAt("mean f = x(y,^);", 1);
        c.wrongAt("mean f = x ^y;", 1);
        c.wrongAt("mean f = \\x.x^);", 1);
        c.wrongAt("mean f = x^", 1);
        // 39 nodes: a name, and two for each time that it is applied.
        String thirtyNine = "x" + Check.times("(y)", 19);
        c.done("mean f = \\z." + thirtyNine + ";", 1);
        c.wrongAt("^mean h = \\z.\\w." + thirtyNine + ";", 2);
        c.wrongAt("^mean h = " + thirtyNine + "(y);", 2);
        c.wrongAt("mean h = " + Check.times("\\x.", 39) + "x(^", 1);
        c.done("mean h = " + Check.times("\\x.", 39) + "x;", 1);
        c.wrongAt("^mean i = x(" + thirtyNine + ");", 2);
        // What is too long is still read to its end.
        c.wrongAt("mean i = " + thirtyNine + "(y)(y) ^x;", 1);
    }

    private static void meanDepth() {
        Check c = new Check("depth of terms");
        c.done("kind n; fun f : > n; fun g : > n; fun h : > n;", 4);
        c.done("mean f = " + Check.times("(", 39) + "x" + Check.times(")", 39) + ";", 1);
        c.wrongAt("mean g = " + Check.times("(", 40) + "^x" + Check.times(")", 40) + ";", 5);
        c.wrongAt("mean g = " + Check.times("(", 40) + "^(" + ";", 5);
        c.wrongAt("mean g = " + Check.times("(", 40) + "^)" + ";", 1);
        c.wrongAt("mean g = " + Check.times("(", 40) + "^", 1);
        c.wrongAt("mean g = " + Check.times("f(", 40) + "^f", 5);
        c.wrongAt("mean g = " + Check.times("\\a.", 40) + "^\\a.a;", 5);
        c.done("mean g = f(" + Check.times("(", 38) + "x" + Check.times(")", 38) + ");", 1);
        c.done("mean h = " + Check.times("(", 38) + "\\x.x" + Check.times(")", 38) + ";", 1);
    }

    private static void thingsAndFacts() {
        Check c = new Check("things and facts");
        c.done("thing a; thing b; fact p a; fact p a b; fact p b a; fact p a; fact p a b;", 7);
        c.due("facts", c.x.count(0, 4), 3);
        c.wrongAt("thing ^a;", 4);
        c.wrongAt("thing ^;", 1);
        c.wrongAt("thing c; fact ^;", 1);
        c.wrongAt("fact p ^;", 1);
        c.wrongAt("fact p ^c;", 5);
        c.wrongAt("fact p a ^c;", 5);
        c.wrongAt("fact p a b ^a;", 1);
        for (int i = 2; i < 8; i++) {
            c.done("thing t" + i + ";", 1);
        }
        c.wrongAt("^thing t8;", 2);
        for (int i = 3; i < 64; i++) {
            c.done("fact f" + i + " t2 t3;", 1);
        }
        c.wrongAt("^fact p b;", 2);
        c.done("fact p b a;", 1);
        c.due("facts", c.x.count(0, 4), 64);
        c.due("things", c.x.count(0, 3), 8);
    }

    private static void wordsOfTheirOwn() {
        Check c = new Check("has, cost, of");
        c.done("kind of; kind has; kind cost; kind kind; fun cost : cost of > has cost 3; fun of : > of; fun fun : > cost;", 7);
        c.done("tongue tongue; feature has = has cost; pattern of { has = 1 }; pattern has of of { cost = 2 };", 4);
        c.done("word of has 'a' has has cost 3; word of of 'b' has cost cost 4; lin cost = 1[cost] 2[has], give cost, give has cost 9;", 3);
        c.tape("a");
        c.due("analyse", c.x.analyse(0), 1);
        c.due("price", c.x.analysis(0, 3), 3);
        c.tape("b");
        c.due("analyse", c.x.analyse(0), 1);
        c.due("price", c.x.analysis(0, 3), 4);
        c.due("value", c.x.analysis(0, 4), 1);
        c.wrongAt("pattern p ^has of { = 1 };", 1);
    }

    private static void numbers() {
        Check c = Check.full("number");
        String[] names = {"es", "np", "and2"};
        int[] due = {1, 4, 14};
        for (int what = 0; what < 3; what++) {
            c.tape(names[what]);
            c.due("number " + what, c.x.number(-7, what), due[what]);
            c.tape("zz");
            c.due("number of none " + what, c.x.number(0, what), -1);
        }
        c.tape("num");
        c.due("feature", c.x.number(1, 3), 0);
        c.tape("many");
        c.due("value", c.x.number(1, 4), 1);
        c.tape("many");
        c.due("value of another tongue", c.x.number(0, 4), -1);
        c.tape("inv");
        c.due("pattern", c.x.number(0, 5), 2);
        c.due("number of nothing", c.x.number(0, 5), -1);
        c.tape("dog cat");
        c.due("number of two names", c.x.number(0, 2), -1);
        c.tape("'dog'");
        c.due("number of letters", c.x.number(0, 2), -1);
        c.done("tongue en; feature case = nom acc;", 2);
        c.tape("acc");
        c.due("values are counted together", c.x.number(0, 4), 3);
        c.refuses("number 3 of no tongue", () -> c.x.number(2, 3));
        c.refuses("number 5 of no tongue", () -> c.x.number(-1, 5));
        c.refuses("number 6", () -> c.x.number(0, 6));
        c.refuses("number -1", () -> c.x.number(0, -1));
    }

    private static void everyBeginning() {
        String[] statements = {"tongue t ;", "kind k ;", "fun f : n a d v > s cost 3 ;", "letters l = 'ab' ;",
            "sound 'a' > 'b' / # hiss 'c' _ # 'd' hiss ;", "pattern p of many { sg = 1 + 'a' + 2 , pl = - , = 3 } ;",
            "word dog reg 'a' 'b' 'c' has sg cost 3 ;", "lin det = 1 [ pl ] 'a' 2 , agree 1 2 num , give 1 num , give pl cost 3 ;",
            "mean fly = ( \\ x . x ( a , b ) ( c ) ) ( d ) ;", "thing t ;", "fact p rex tom ;"};
        for (String statement : statements) {
            Check c = Check.full("every beginning of " + statement);
            c.done("tongue en; pattern many { = 1 };", 2);
            String[] tokens = statement.split(" ");
            StringBuilder beginning = new StringBuilder();
            for (int i = 0; i < tokens.length - 1; i++) {
                beginning.append(tokens[i]).append(" ");
                c.tape(beginning + "kind zz;");
                c.due(beginning + "kind zz; is wrong", c.x.module() < 0 ? 1 : 0, 1);
                c.tape(beginning.toString());
                c.due(beginning + "ends too soon", c.x.module(), -1 - beginning.length());
                c.due("by rule 1", c.x.rule(), 1);
            }
            c.due("kinds", c.x.count(0, 1), 7);
            c.done("tongue en; " + statement, 2);
        }
    }

    private static void counts() {
        Check c = Check.full("count");
        int[] house = {2, 7, 15, 2, 4, 0, 0, 0};
        for (int what = 0; what < 8; what++) {
            c.due("count " + what, c.x.count(99, what), house[what]);
        }
        int[][] tongues = {{1, 2, 1, 2, 3, 8, 7}, {1, 2, 0, 0, 2, 6, 7}};
        for (int t = 0; t < 2; t++) {
            for (int what = 8; what <= 14; what++) {
                c.due("count " + what + " of " + t, c.x.count(t, what), tongues[t][what - 8]);
            }
        }
        c.refuses("count -1", () -> c.x.count(0, -1));
        c.refuses("count 15", () -> c.x.count(0, 15));
        c.refuses("count of no tongue", () -> c.x.count(2, 8));
        c.refuses("count of tongue -1", () -> c.x.count(-1, 14));
    }
}
