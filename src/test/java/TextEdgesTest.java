/** The edges that Terms 1 and promises 1, 2, 3 and 6 name: each method is for the words of the document above it. */
public final class TextEdgesTest {
    private static final int[] FAR = {Integer.MIN_VALUE, Integer.MIN_VALUE + 1, -1, Integer.MAX_VALUE - 1, Integer.MAX_VALUE};

    public static void main(String[] args) {
        thousandBytes();
        readersEmptyIt();
        throwersLeaveIt();
        bytesOfTheTape();
        whatIsCutOffIsNotRead();
        outIsCut();
        belowZeroOutIsEmpty();
        othersLeaveOut();
        belowZeroNoneIsNoted();
        names();
        numbers();
        letters();
        signs();
        blanks();
        bytesThatBeginNoToken();
        asLongAsItCanBe();
        farNumbers();
        Check.finish();
    }

    /** A byte at a time, whatever it is. */
    private static void feedBytes(Check c, int... bytes) {
        c.x.end(0);
        for (int i = 0; i < bytes.length; i += 20) {
            int[] four = new int[5];
            for (int k = 0; k < 20; k++) {
                four[k / 4] = four[k / 4] << 8 | (i + k < bytes.length ? bytes[i + k] & 255 : 0);
            }
            c.x.feed(four[0], four[1], four[2], four[3], four[4]);
        }
        c.x.end(bytes.length);
    }

    // "THE TAPE has at most 1000 bytes, none at first"; feed: "IllegalStateException if there would be more than 1000";
    // end: "IllegalArgumentException: below 0, or it has not so many".
    private static void thousandBytes() {
        Check c = new Check("a thousand bytes");
        c.refuses("none at first", () -> c.x.end(1));
        c.due("end 0 of none", c.x.end(0), 0);
        for (int i = 1; i <= 50; i++) {
            c.due("feed " + i, c.x.feed(0, -1, 0, -1, 0), 20 * i);
        }
        c.refusesNow("1020", () -> c.x.feed(0, 0, 0, 0, 0));
        c.refuses("end 1001", () -> c.x.end(1001));
        c.due("all 1000 are there", c.x.end(1000), 1000);
        for (int n = 999; n > 980; n--) {
            c.due("end " + n, c.x.end(n), n);
            c.refusesNow("feed to " + (n + 20), () -> c.x.feed(0, 0, 0, 0, 0));
        }
        c.due("what was refused brought nothing", c.x.end(981), 981);
        c.refuses("what was refused brought nothing", () -> c.x.end(982));
        c.due("end 980", c.x.end(980), 980);
        c.refuses("end -1", () -> c.x.end(-1));
        c.refuses("end 981", () -> c.x.end(981));
        c.due("what was refused took nothing", c.x.end(980), 980);
        c.due("feed to 1000", c.x.feed(0, 0, 0, 0, 0), 1000);
        c.due("end 1", c.x.end(1), 1);
        c.due("feed to 21", c.x.feed(0, 0, 0, 0, 0), 21);
        c.due("end 0", c.x.end(0), 0);
        c.refuses("end 1", () -> c.x.end(1));
    }

    private static Check.Call[] readers(Check c) {
        return new Check.Call[] {
            () -> c.x.module(), () -> c.x.number(0, 2), () -> c.x.sounds(0), () -> c.x.analyse(0), () -> c.x.guess(0),
            () -> c.x.parse(0, 0), () -> c.x.tree(0), () -> c.x.swap(0, 0, 1), () -> c.x.add(0), () -> c.x.ask(0), () -> c.x.mend(0, 0)
        };
    }

    // "a call that reads it leaves it empty"
    private static void readersEmptyIt() {
        Check c = Check.full("what reads the tape");
        Check.Call[] readers = readers(c);
        for (String text : new String[] {"dog", "'dog' kind", "?", " ", Check.times("x ", 30)}) {
            for (int i = 0; i < readers.length; i++) {
                c.tape(text);
                readers[i].answer();
                c.refuses("a byte is left by call " + i + " of " + text, () -> c.x.end(1));
            }
        }
        for (int i = 0; i < readers.length; i++) {
            readers[i].answer();
            c.due("it reads an empty one", c.x.end(0), 0);
        }
    }

    // "(what throws has not read it)"
    private static void throwersLeaveIt() {
        Check c = Check.full("what throws");
        Check.Call[] throwers = {
            () -> c.x.number(0, 6), () -> c.x.number(2, 3), () -> c.x.sounds(2), () -> c.x.analyse(2), () -> c.x.guess(2),
            () -> c.x.parse(2, 0), () -> c.x.parse(0, 7), () -> c.x.tree(8), () -> c.x.swap(2, 0, 1), () -> c.x.swap(0, 7, 1),
            () -> c.x.swap(0, 0, 2), () -> c.x.add(2), () -> c.x.ask(2), () -> c.x.mend(2, 0), () -> c.x.mend(0, 7), () -> c.x.end(4)
        };
        c.tape("dog");
        for (int i = 0; i < throwers.length; i++) {
            c.refuses("call " + i, throwers[i]);
            c.due("three bytes after call " + i, c.x.end(3), 3);
        }
        c.due("and they are as they were", c.x.number(0, 2), 0);
        int[] due = {-1, 0, 3, 1, 1, 1, 1, 1, 1, -3, 0};
        Check.Call[] readers = readers(c);
        for (int i = 0; i < readers.length; i++) {
            c.tape("dog");
            c.refuses("what throws", throwers[i]);
            c.due("call " + i + " after what threw", readers[i].answer(), due[i]);
        }
    }

    // "Twenty bytes come to THE TAPE, four of each argument, the highest first: how many it has."
    private static void bytesOfTheTape() {
        Check c = new Check("bytes of the tape");
        c.done("kind a; kind b; kind c; kind d; kind e; kind f; kind g; kind h;", 8);
        // "kind qrstuvw;kind z;"
        c.x.feed(0x6b696e64, 0x20717273, 0x74757677, 0x3b6b696e, 0x64207a3b);
        c.due("module", c.x.module(), 2);
        c.tape("qrstuvw");
        c.due("number", c.x.number(0, 1), 8);
        c.tape("z");
        c.due("number", c.x.number(0, 1), 9);
        // 254 and 255 are no letters, whatever sign an int has.
        c.x.feed(0x6b696e64, 0x2079fe3b, 0, 0, 0);
        c.due("module", c.x.module(), -7);
        c.x.feed(0xff6b696e, 0x64207a3b, 0, 0, 0);
        c.due("module", c.x.module(), -1);
    }

    // "THE TAPE has its first n bytes alone: n."
    private static void whatIsCutOffIsNotRead() {
        Check c = Check.full("what is cut off");
        cut(c, "kind qqrr;", 7);
        c.due("a statement that is not ended", c.x.module(), -8);
        cut(c, "kind qqrr;", 9);
        c.due("nor here", c.x.module(), -10);
        cut(c, "dogs", 3);
        c.due("a name", c.x.number(0, 2), 0);
        cut(c, "doggy", 4);
        c.due("another name", c.x.number(0, 2), -1);
        cut(c, "fun q : > n cost 10000;", 22);
        c.due("a number", c.x.module(), -23);
        cut(c, "fun q : > n cost 10001;", 21);
        c.due("a number without its last digit", c.x.module(), -22);
        c.due("is not too much", c.x.rule(), 1);
        cut(c, "tongue en; letters q = 'ab';", 26);
        c.due("letters without their end", c.x.module(), -24);
        cut(c, "tongue en; letters q = 'ab';", 25);
        c.due("letters without their end", c.x.module(), -24);
        cut(c, "tongue en; letters q = 'ab';", 24);
        c.due("letters without any", c.x.module(), -24);
        cut(c, "dogs", 3);
        c.due("a word", c.x.analyse(0), 1);
        c.due("its cell", c.x.analysis(0, 1), 0);
        cut(c, "the dogs run", 7);
        c.due("a sentence", c.x.parse(0, 4), 1);
        cut(c, "boxs", 3);
        c.gives("sounds", c.x.sounds(0), "box");
        cut(c, "mod(big,dog)", 7);
        c.due("a tree", c.x.tree(0), -8);
        c.tape("the dog");
        c.due("a sentence to ask for", c.x.add(0), 1);
        cut(c, "d n n", 3);
        c.due("a question", c.x.ask(0), 1);
        cut(c, "fun q : > n cost 10000;", 19);
        c.x.feed(0x3b202020, 0x20202020, 0x20202020, 0x20202020, 0x20202020);
        c.due("feed goes on where it was cut", c.x.module(), 1);
        cut(c, "dog", 0);
        c.due("nothing", c.x.number(0, 2), -1);
    }

    private static void cut(Check c, String text, int n) {
        c.tape(text);
        c.due("cut " + text, c.x.end(n), n);
    }

    // "OUT is the text that a call gives (1000 bytes; one that would be longer is cut there)"; out: "-1 if there is none"
    private static void outIsCut() {
        String eight = "xxxxxxxx";
        Check c = new Check("cut at 1000");
        c.done("kind n; fun a : > n; fun b : > n; fun d : > n; fun q : n > n;", 5);
        // A text of 172 bytes around that of its argument.
        c.done("mean q = " + eight + "(" + Check.times(eight + ",", 18) + "1);", 1);
        String[] leaves = {"a", "b", "d"};
        for (int i = 0; i < 3; i++) {
            String last = "yyyyyy".substring(0, 3 + i);
            // 139, 140, 141 bytes.
            c.done("mean " + leaves[i] + " = " + eight + "(" + Check.times(eight + ",", 14) + last + ");", 1);
            c.tape("q(q(q(q(q(" + leaves[i] + ")))))");
            c.due("tree", c.x.tree(i), 6);
        }
        int[] size = {999, 1000, 1000};
        int[] lastLetter = {992, 993, 994};
        for (int i = 0; i < 3; i++) {
            c.due("mean of " + (999 + i) + " bytes", c.x.mean(i), size[i]);
            c.due("byte 0", c.x.out(0), 'x');
            c.due("the last letter", c.x.out(lastLetter[i]), 'y');
            c.due("behind it", c.x.out(lastLetter[i] + 1), ')');
            c.due("the last byte", c.x.out(size[i] - 1), ')');
            c.due("none behind it", c.x.out(size[i]), -1);
            c.due("none ahead of it", c.x.out(-1), -1);
        }
        c.due("OUT of a shorter text", c.x.show(0), 16);
        c.due("its last byte", c.x.out(15), ')');
        c.due("none behind it", c.x.out(16), -1);
    }

    // "such a call that tells below 0 leaves it empty"
    private static void belowZeroOutIsEmpty() {
        Check c = Check.full("OUT is empty below 0");
        c.done("fun loop : > n; mean loop = (\\x.x(x))(\\x.x(x)); tongue es; sound 'q' > ''; pattern no { one = - }; word loop no 'a';", 6);
        c.tape("loop");
        c.x.tree(1);
        c.tape("fly");
        c.x.tree(2);
        c.tape("dog");
        c.x.tree(0);
        full(c);
        c.tape("A");
        c.givesNone("sounds of no word", c.x.sounds(0), -3);
        full(c);
        c.tape("q");
        c.givesNone("sounds to nothing", c.x.sounds(1), -1);
        full(c);
        c.givesNone("cell that lacks", c.x.cell(1, 6, 0), -1);
        full(c);
        c.givesNone("show of an empty place", c.x.show(7), -1);
        full(c);
        c.givesNone("say of an empty place", c.x.say(0, 7, 0), -1);
        full(c);
        c.givesNone("say of no option", c.x.say(0, 0, 2), -1);
        full(c);
        c.givesNone("say below 0", c.x.say(0, 0, -1), -1);
        full(c);
        c.givesNone("mean without end", c.x.mean(1), -1);
        full(c);
        c.givesNone("mean without mean", c.x.mean(2), -2);
        full(c);
        c.givesNone("mean without tree", c.x.mean(7), -4);
        full(c);
        c.givesNone("candidate", c.x.candidate(0), -1);
        full(c);
        c.tape("?");
        c.givesNone("mend of no sentence", c.x.mend(0, 0), -3);
        full(c);
        c.tape("zebra");
        c.givesNone("mend in vain", c.x.mend(0, 0), -1);
    }

    private static void full(Check c) {
        c.gives("show", c.x.show(0), "dog");
    }

    // OUT is what a call gives: what gives none leaves it.
    private static void othersLeaveOut() {
        Check c = Check.full("OUT of other calls");
        c.tape("dog");
        c.x.tree(0);
        full(c);
        for (Check.Call reader : new Check.Call[] {() -> c.x.module(), () -> c.x.number(0, 2), () -> c.x.analyse(0), () -> c.x.guess(0),
            () -> c.x.parse(0, 0), () -> c.x.tree(1), () -> c.x.swap(0, 0, 1), () -> c.x.add(0), () -> c.x.ask(0)}) {
            for (String text : new String[] {"dog", "?"}) {
                c.tape(text);
                reader.answer();
                c.due("OUT is as it was", c.x.out(0), 'd');
            }
        }
        c.tape("dog");
        c.x.parse(0, 0);
        c.refuses("what throws", () -> c.x.show(8));
        c.refuses("what throws", () -> c.x.say(0, -1, 0));
        c.refuses("what throws", () -> c.x.mean(8));
        c.refuses("what throws", () -> c.x.cell(0, 0, 2));
        c.refuses("what throws", () -> c.x.sounds(2));
        c.refuses("what throws", () -> c.x.mend(0, 7));
        c.x.rule();
        c.x.analysis(0, 0);
        c.x.guessed(0, 0);
        c.x.trees();
        c.x.bar(0, false);
        c.x.price(0);
        c.x.reading(0, 2);
        c.x.same(0, 1);
        c.x.truth(0);
        c.x.hit(0, 0);
        c.x.count(0, 8);
        c.dueText("OUT is as it was", c.out(), "dog");
    }

    // "one that notes ANALYSES, GUESSES, CANDIDATES or HITS leaves none of these then"
    private static void belowZeroNoneIsNoted() {
        Check c = Check.full("none is noted");
        c.tape("the dog");
        c.x.add(0);
        for (String none : new String[] {"", "?", "a1", Check.times("a", 25)}) {
            c.tape("dog");
            c.due("analyse", c.x.analyse(0), 1);
            c.tape(none);
            c.due("analyse of none", c.x.analyse(0), -3);
            c.due("no analysis", c.x.analysis(0, 0), -1);
            c.tape("dog");
            c.due("guess", c.x.guess(0), 1);
            c.tape(none);
            c.due("guess of none", c.x.guess(0), -3);
            c.due("no guess", c.x.guessed(0, 0), -1);
            c.tape("dog");
            c.due("swap", c.x.swap(0, 0, 1), 1);
            c.tape(none);
            c.due("swap of none", c.x.swap(0, 0, 1), -3);
            c.due("no candidate", c.x.candidate(0), -1);
            c.tape("n");
            c.due("ask", c.x.ask(0), 1);
            c.tape(none);
            c.due("ask of none", c.x.ask(0), -3);
            c.due("no hit", c.x.hit(0, 0), -1);
        }
    }

    // "a NAME (a to z, then up to seven more a to z, 0 to 9)"
    private static void names() {
        Check c = new Check("names");
        c.done("kind a; kind z; kind z0; kind a9; kind abcdefgh; kind a1234567; kind az09az09;", 7);
        c.wrongAt("kind ^abcdefgh;", 4);
        c.wrongAt("kind ^a9;", 4);
        c.wrongAt("kind bbcdefgh^h;", 1);
        c.wrongAt("kind bbcdefgh^1;", 1);
        c.wrongAt("kind b1234567^8;", 1);
        c.wrongAt("kind ^0a;", 1);
        c.wrongAt("kind ^9;", 1);
        c.wrongAt("kind b^A;", 1);
        c.wrongAt("kind ^`;", 1);
        c.wrongAt("kind ^{;", 1);
        c.wrongAt("kind b^`;", 1);
        c.wrongAt("kind b^{;", 1);
        // The eighth letter tells two NAMES apart, the first alone does not make one.
        c.done("kind abcdefgi; kind abcdefg; kind bbcdefgh;", 3);
        c.due("kinds", c.x.count(0, 1), 10);
        String[] all = {"a", "z", "z0", "a9", "abcdefgh", "a1234567", "az09az09", "abcdefgi", "abcdefg", "bbcdefgh"};
        for (int i = 0; i < all.length; i++) {
            c.tape(all[i]);
            c.due("number of " + all[i], c.x.number(0, 1), i);
        }
        c.tape("abcdefghi");
        c.due("nine letters are no NAME", c.x.number(0, 1), -1);
    }

    // "a NUMBER (one to six digits)"
    private static void numbers() {
        Check c = new Check("numbers");
        c.done("kind n; fun a : > n cost 7; fun b : > n cost 0; fun d : > n cost 000000; fun e : > n cost 010000; fun f : > n cost 000009;", 6);
        c.done("tongue t; pattern p { = 01 }; pattern q { = 000001 + 2 }; word a p 'a'; word b p 'b'; word d p 'd'; word e p 'e'; word f p 'f';", 8);
        int[] prices = {7, 0, 0, 10000, 9};
        for (int i = 0; i < 5; i++) {
            c.tape("" + "abdef".charAt(i));
            c.due("analyse", c.x.analyse(0), 1);
            c.due("price", c.x.analysis(0, 3), prices[i]);
        }
        c.wrongAt("fun g : > n cost 000001^0;", 1);
        c.wrongAt("fun g : > n cost ^999999;", 5);
        c.wrongAt("fun g : > n cost ^010001;", 5);
        c.wrongAt("fun g : > n cost 1^/;", 1);
        c.wrongAt("fun g : > n cost 1^:;", 1);
        c.wrongAt("fun g : > n cost ^/;", 1);
        c.wrongAt("fun g : > n cost ^-1;", 1);
        c.wrongAt("pattern r { = ^000000 };", 5);
        c.wrongAt("pattern r { = ^000004 };", 5);
        c.wrongAt("pattern r { = ^100001 };", 5);
    }

    // "LETTERS (a to z, up to 12, between two ' )"
    private static void letters() {
        Check c = new Check("letters");
        c.done("tongue t; letters none = ''; letters one = 'a'; letters most = 'abcdefghijkl'; letters last = 'z';", 5);
        c.wrongAt("letters x = ^'abcdefghijklm';", 1);
        c.wrongAt("letters x = ^';", 1);
        c.wrongAt("letters x = ^'", 1);
        c.wrongAt("letters x = ^'abcdefghijkl;", 1);
        c.wrongAt("letters x = ^'ab1';", 1);
        c.wrongAt("letters x = ^'a`';", 1);
        c.wrongAt("letters x = ^'a{';", 1);
        c.wrongAt("letters x = ^' ';", 1);
        c.wrongAt("letters x = 'a'^'b';", 1);
        c.wrongAt("letters x = ''^'b';", 1);
        c.wrongAt("letters x = ^\"a\";", 1);
        c.done("sound most > 'z'; sound last > 'abcdefghijkl';", 2);
        c.tape("almq");
        // a and l are of the first CLASS, m is not; each z becomes twelve letters then.
        c.givesNone("sounds", c.x.sounds(0), -1);
        c.tape("am");
        c.gives("sounds", c.x.sounds(0), "abcdefghijklm");
    }

    // "and the signs ; = + > / _ # ( ) , : . - * \ [ ] { }"
    private static void signs() {
        Check c = Check.full("signs");
        String signs = ";=+>/_#(),:.-*\\[]{}";
        for (int i = 0; i < signs.length(); i++) {
            c.wrongAt("^" + signs.charAt(i), 1);
            c.wrongAt("kind ^" + signs.charAt(i), 1);
        }
        c.done("tongue en;sound'q'>'k'/#'a'_'b'#;pattern z{sg=1+2,pl=-};lin det=1[sg]2,agree 1 2 num;mean fly=\\x.x(x,x);", 5);
        c.tape("the dog");
        c.x.add(0);
        c.tape("**");
        c.due("ask", c.x.ask(0), 1);
    }

    // "blanks (32) between them mean nothing"
    private static void blanks() {
        Check c = new Check("blanks");
        c.done(Check.times(" ", 40), 0);
        c.done("   kind   n   ;   fun f:>n;fun g  :  n  >  n  cost  3  ;", 3);
        c.done("tongue t;pattern p{=1};word f p'a'cost 3;lin g='b'1;mean g=1(1)(1,1);", 5);
        c.done("pattern q { = 1 + 'a' , = - } ; word f q 'a' 'b' cost 3 ; lin g = 1 'b' ; mean f = ( \\ x . x ) ( y ) ;", 4);
        c.wrongAt("kind a ^b;", 1);
        c.wrongAt("^ki nd n;", 1);
        for (int blank : new int[] {0, 9, 10, 11, 12, 13, 31, 33, 160}) {
            feedBytes(c, 'k', 'i', 'n', 'd', ' ', 'q', blank, ';');
            c.due("module with " + blank, c.x.module(), -7);
            c.due("rule", c.x.rule(), 1);
        }
    }

    // "A byte that begins no TOKEN is wrong by 1, when it is come to."
    private static void bytesThatBeginNoToken() {
        String tokens = "abcdefghijklmnopqrstuvwxyz0123456789' ;=+>/_#(),:.-*\\[]{}";
        for (int from = 0; from < 256; from += 64) {
            Check c = new Check("bytes that begin no token");
            for (int b = from; b < from + 64; b++) {
                if (tokens.indexOf(b) < 0) {
                    feedBytes(c, 'k', 'i', 'n', 'd', ' ', 'm', ';', b);
                    c.due("module with byte " + b, c.x.module(), -8);
                    c.due("rule", c.x.rule(), 1);
                }
            }
            c.due("kinds", c.x.count(0, 1), 0);
        }
        Check d = new Check("bytes where others are due");
        d.done("kind n; tongue t; fun f : n > n; pattern p { = 1 }; fun g : > n;", 5);
        String[] beginnings = {"", "kind m", "kind m;", "fun h ", "fun h : ", "fun h : > ", "letters l = ", "pattern q { = ", "word g p ", "lin f = ", "mean f = "};
        for (String beginning : beginnings) {
            for (int b = 0; b < 6; b++) {
                int[] bytes = new int[beginning.length() + 2];
                for (int i = 0; i < beginning.length(); i++) {
                    bytes[i] = beginning.charAt(i);
                }
                bytes[beginning.length()] = b;
                bytes[beginning.length() + 1] = ';';
                feedBytes(d, bytes);
                d.due(beginning + " and byte " + b, d.x.module(), -1 - beginning.length());
            }
        }
        d.due("rule", d.x.rule(), 1);
        // What is wrong ahead of it comes first.
        d.wrongAt("kind ^n ?", 4);
        d.wrongAt("fun h : ^zz ?", 5);
        d.wrongAt("kind m ^? kind n;", 1);
    }

    // "each TOKEN is as long as it can be"
    private static void asLongAsItCanBe() {
        Check c = new Check("as long as it can be");
        c.wrongAt("^kindn;", 1);
        c.wrongAt("^kin d;", 1);
        c.wrongAt("^kind1 n;", 1);
        c.done("kind n;kind m1 ;fun f:>n cost 3;", 3);
        c.wrongAt("fun g:>^ncost3;", 5);
        c.wrongAt("fun g:>n ^cost3;", 1);
        c.done("tongue t; pattern q { = 3 }; word f q'a''b''c'cost 3;", 3);
        c.wrongAt("pattern p { = 1+'a'^'' };", 1);
        c.gives("the third stem", c.x.cell(0, 0, 0), "c");
        c.wrongAt("word f q 'a' cost 1^x;", 1);
    }

    // Wrong numbers may be far off: no call answers them otherwise.
    private static void farNumbers() {
        Check c = Check.full("far numbers");
        c.tape("dog");
        c.x.analyse(0);
        c.tape("dog");
        c.x.guess(0);
        c.tape("dog");
        c.x.swap(0, 0, 1);
        c.tape("dog");
        c.x.tree(0);
        for (int far : FAR) {
            c.due("out", c.x.out(far), -1);
            c.due("price", c.x.price(far), -1);
            c.due("analysis", c.x.analysis(far, 0), -1);
            c.due("guessed", c.x.guessed(far, 0), -1);
            c.due("hit", c.x.hit(far, 0), -1);
            c.due("candidate", c.x.candidate(far), -1);
            c.due("reading", c.x.reading(far, 0), -1);
            c.due("say", c.x.say(0, 0, far), -1);
            c.refuses("end", () -> c.x.end(far));
            c.refuses("number", () -> c.x.number(far, 3));
            c.refuses("number", () -> c.x.number(0, far));
            c.refuses("sounds", () -> c.x.sounds(far));
            c.refuses("analyse", () -> c.x.analyse(far));
            c.refuses("analysis", () -> c.x.analysis(0, far));
            c.refuses("cell", () -> c.x.cell(far, 0, 0));
            c.refuses("cell", () -> c.x.cell(0, far, 0));
            c.refuses("cell", () -> c.x.cell(0, 0, far));
            c.refuses("guess", () -> c.x.guess(far));
            c.refuses("guessed", () -> c.x.guessed(0, far));
            c.refuses("parse", () -> c.x.parse(far, 0));
            c.refuses("parse", () -> c.x.parse(0, far));
            c.refuses("bar", () -> c.x.bar(far, true));
            c.refuses("reading", () -> c.x.reading(0, far));
            c.refuses("tree", () -> c.x.tree(far));
            c.refuses("show", () -> c.x.show(far));
            c.refuses("same", () -> c.x.same(far, 0) ? 1 : 0);
            c.refuses("same", () -> c.x.same(0, far) ? 1 : 0);
            c.refuses("say", () -> c.x.say(far, 0, 0));
            c.refuses("say", () -> c.x.say(0, far, 0));
            c.refuses("mean", () -> c.x.mean(far));
            c.refuses("truth", () -> c.x.truth(far));
            c.refuses("swap", () -> c.x.swap(far, 0, 1));
            c.refuses("swap", () -> c.x.swap(0, far, 1));
            c.refuses("swap", () -> c.x.swap(0, 0, far));
            c.refuses("add", () -> c.x.add(far));
            c.refuses("ask", () -> c.x.ask(far));
            c.refuses("hit", () -> c.x.hit(0, far));
            c.refuses("mend", () -> c.x.mend(far, 0));
            c.refuses("mend", () -> c.x.mend(0, far));
            c.refuses("count", () -> c.x.count(far, 8));
            c.refuses("count", () -> c.x.count(0, far));
            c.due("count of no tongue", c.x.count(far, 0), 2);
            c.tape("en");
            c.due("number of no tongue", c.x.number(far, 0), 0);
        }
    }
}
