/** The edges that Terms 7 and promises 25 to 30 name: each method is for the words of the document above it. */
public final class SearchEdgesTest {
    public static void main(String[] args) {
        sixteenReadings();
        moreThanSixtyFuns();
        textsThatAreNotThereYet();
        byItsFirstOption();
        swapBelowZero();
        candidatesOfASwap();
        aHundredSentences();
        sentencesThatAreNone();
        eightOfAQuestion();
        whatIsNoQuestion();
        lettersAndKinds();
        kindsOfLateWords();
        asManyHitsAsCanBe();
        whatOfAHit();
        twelveWords();
        notTheOnlyWord();
        anotherForm();
        formsOfThatWordAlone();
        theCheapest();
        ofOnePrice();
        aThousandChanges();
        aThousandOfOneWord();
        asSoonAsAParseFails();
        triesOfAllParses();
        theForestOfAMend();
        Check.finish();
    }

    // "the READINGS (the first 16) of a sentence, in order"
    private static void sixteenReadings() {
        Check c = new Check("sixteen readings");
        c.done("kind n; tongue g; pattern p { = 1 }; tongue h; pattern p { = 1 }; tongue g;", 6);
        for (int i = 0; i < 18; i++) {
            c.done("fun x" + i + ":>n; word x" + i + " p 'o' cost " + (20 - i) + ";", 2);
        }
        c.tape("o");
        c.due("said by none", c.x.swap(0, 0, 1), 0);
        c.due("but there is a forest", c.x.trees(), 18);
        c.done("tongue h;", 1);
        for (int i = 0; i < 18; i++) {
            c.done("word x" + i + " p 'a" + (char) ('a' + i) + "';", 1);
        }
        c.tape("o");
        c.due("swap", c.x.swap(0, 0, 1), 16);
        for (int i = 0; i < 16; i++) {
            c.gives("candidate " + i, c.x.candidate(i), "a" + (char) ('a' + 17 - i));
        }
        c.givesNone("candidate 16", c.x.candidate(16), -1);
        c.givesNone("candidate 17", c.x.candidate(17), -1);
        c.givesNone("candidate -1", c.x.candidate(-1), -1);
    }

    // "(one of more than 60 FUNS is passed over)"
    private static void moreThanSixtyFuns() {
        Check c = new Check("more than sixty funs");
        c.done("kind a; kind b; kind c; kind s; kind y; kind z; fun x : > a; fun p : a > b; fun q : b > c; fun t : c c > s; fun v : s c > s; fun e : s > y; fun f : y > z; fun k : s > z cost 3; tongue g;", 15);
        c.done("pattern r { = 1 }; word x r 'o'; lin p = 1; lin q = 1; lin t = 1 2; lin v = 1 2; lin e = 1; lin f = 1;", 8);
        String fifteen = Check.times("o ", 14) + "o";
        int[] due = {1, 1, 0};
        for (int kind = 3; kind <= 5; kind++) {
            c.tape(fifteen);
            c.due("swap of " + (56 + kind), c.x.swap(0, kind, 0), due[kind - 3]);
            c.due("there is a reading", c.x.trees(), 1);
            c.due("and its price", c.x.price(0), 0);
        }
        c.givesNone("none was said", c.x.candidate(0), -1);
        // Another READING of 60 comes behind the one of 61, which is passed over.
        c.done("lin k = 1;", 1);
        c.tape(fifteen);
        c.due("swap", c.x.swap(0, 5, 0), 1);
        c.due("two readings", c.x.trees(), 2);
        c.due("the first has too many", c.x.reading(0, 0), -2);
        c.due("the second has not", c.x.reading(1, 0), 60);
        c.gives("candidate", c.x.candidate(0), fifteen);
    }

    // "texts that are not there yet: CANDIDATES"
    private static void textsThatAreNotThereYet() {
        Check c = new Check("texts that are not there yet");
        c.done("kind n; fun x : > n; fun y : > n; fun z : > n; fun w : > n; fun v : > n; fun u : > n; tongue g; pattern p { = 1 };", 9);
        c.done("word x p 'o'; word y p 'o'; word z p 'o'; word w p 'o'; word v p 'o'; word u p 'o'; tongue h; pattern p { = 1 };", 8);
        c.done("word x p 'a'; word y p 'ab'; word z p 'a'; word w p 'b'; word v p 'abc'; word u p 'ab';", 6);
        c.tape("o");
        c.due("swap", c.x.swap(0, 0, 1), 4);
        String[] due = {"a", "ab", "b", "abc"};
        for (int i = 0; i < 4; i++) {
            c.gives("candidate " + i, c.x.candidate(i), due[i]);
        }
        c.givesNone("no more", c.x.candidate(4), -1);
        Check d = new Check("shorter ones later");
        d.done("kind n; fun x : > n; fun y : > n; fun z : > n; tongue g; pattern p { = 1 }; word x p 'o'; word y p 'o'; word z p 'o';", 9);
        d.done("tongue h; pattern p { = 1 }; word x p 'abc'; word y p 'ab'; word z p 'abd';", 5);
        d.tape("o");
        d.due("swap", d.x.swap(0, 0, 1), 3);
        d.gives("candidate 1", d.x.candidate(1), "ab");
        d.gives("candidate 2", d.x.candidate(2), "abd");
    }

    // "each said in the other TONGUE by its first OPTION"
    private static void byItsFirstOption() {
        Check c = Check.full("by its first option");
        c.tape("the dogs run");
        c.due("swap", c.x.swap(0, 6, 1), 1);
        c.gives("the first option is of one", c.x.candidate(0), "lo perro corra");
        c.tape("lo perro corra");
        c.due("swap back", c.x.swap(1, 6, 0), 1);
        c.gives("candidate", c.x.candidate(0), "the dog runs");
        c.tape("the dogs run");
        c.due("to its own", c.x.swap(0, 6, 0), 1);
        c.gives("candidate", c.x.candidate(0), "the dog runs");
        c.done("tongue es; word dog nm 'can' cost 1; word dog nm 'ch'; tongue new;", 4);
        c.tape("the dogs run");
        c.due("swap", c.x.swap(0, 6, 1), 1);
        c.gives("the first option still", c.x.candidate(0), "lo perro corra");
        c.tape("the dogs run");
        c.due("a tongue that says nothing", c.x.swap(0, 6, 2), 0);
        c.due("there is a forest", c.x.trees(), 1);
        c.tape("the dogs run");
        c.due("a tongue that knows nothing", c.x.swap(2, 6, 0), 0);
        c.due("there is none", c.x.trees(), 0);
    }

    // swap: "The sentence on THE TAPE (-3) ..; -1; THE FOREST is its one, as of parse(). IllegalArgumentException: no such KIND, too."
    private static void swapBelowZero() {
        Check c = Check.full("swap below zero");
        for (String none : new String[] {"", " ", "the dog, runs", "The", Check.times("a", 25), Check.times("a ", 25), "1", "dog'"}) {
            c.tape("the dog runs");
            c.due("swap", c.x.swap(0, 6, 1), 1);
            c.tape(none);
            c.due("swap of '" + none + "'", c.x.swap(0, 6, 1), -3);
            c.givesNone("no candidate", c.x.candidate(0), -1);
            c.due("no forest", c.x.trees(), 0);
            c.due("no nodes", c.x.count(0, 5), 0);
        }
        c.tape("the dog runs");
        c.due("swap", c.x.swap(0, 6, 1), 1);
        for (int none : new int[] {-1, 2}) {
            c.refuses("no such tongue", () -> c.x.swap(none, 6, 1));
            c.refuses("no such other", () -> c.x.swap(0, 6, none));
        }
        c.refuses("no such kind", () -> c.x.swap(0, -1, 1));
        c.refuses("no such kind", () -> c.x.swap(0, 7, 1));
        c.due("the candidate is still there", c.x.candidate(0), 14);
        c.due("and the forest", c.x.trees(), 1);
        c.tape("the dogs runs");
        c.due("no reading", c.x.swap(0, 6, 1), 0);
        c.givesNone("no candidate", c.x.candidate(0), -1);
        c.due("no forest", c.x.trees(), 0);
    }

    // candidate: "-1 if there is none"
    private static void candidatesOfASwap() {
        Check c = Check.full("candidates");
        c.givesNone("none at first", c.x.candidate(0), -1);
        c.tape("dog");
        c.due("swap", c.x.swap(0, 0, 1), 1);
        c.gives("the first", c.x.candidate(0), "perro");
        c.givesNone("no second", c.x.candidate(1), -1);
        c.givesNone("none ahead", c.x.candidate(-1), -1);
        c.tape("cat");
        c.due("parse is no swap", c.x.parse(0, 0), 1);
        c.gives("the first", c.x.candidate(0), "perro");
        c.tape("cat");
        c.due("mend is no swap", c.x.mend(0, 0), 0);
        c.gives("the first", c.x.candidate(0), "perro");
        c.tape("fly");
        c.due("a swap in vain", c.x.swap(0, 0, 1), 0);
        c.givesNone("none any more", c.x.candidate(0), -1);
    }

    // "THE COLLECTION: sentences of TONGUES, at most 100"; add: "IllegalStateException: 100 (THE TAPE stays)"
    private static void aHundredSentences() {
        Check c = new Check("a hundred sentences");
        c.done("kind n; fun x : > n; tongue t; tongue u; pattern p { = 1 }; word x p 'a';", 6);
        for (int i = 1; i <= 100; i++) {
            // "a" or "b", and blanks.
            c.x.feed(i % 2 == 0 ? 0x61202020 : 0x62202020, 0x20202020, 0x20202020, 0x20202020, 0x20202020);
            int tongue = i % 4 == 0 ? 1 : 0;
            c.due("add " + i, c.x.add(tongue), i);
            if (i == 99) {
                c.tape("?");
                c.due("none is none", c.x.add(0), -3);
                c.due("count", c.x.count(0, 7), 99);
            }
        }
        c.tape("a");
        c.refusesNow("one more", () -> c.x.add(0));
        c.refusesNow("one more in another tongue", () -> c.x.add(1));
        c.refuses("no such tongue", () -> c.x.sounds(2));
        c.due("the tape stays", c.x.end(1), 1);
        c.due("and can be read", c.x.parse(1, 0), 1);
        c.due("count", c.x.count(0, 7), 100);
        c.tape("'a'");
        c.due("ask in u", c.x.ask(1), 25);
        c.due("the last hit", c.x.hit(24, 0), 99);
        c.tape("*");
        c.due("ask in t", c.x.ask(0), 75);
        c.due("the last hit", c.x.hit(74, 0), 98);
    }

    // add: "The sentence on THE TAPE (-3)"
    private static void sentencesThatAreNone() {
        Check c = Check.full("sentences that are none");
        for (String none : new String[] {"", " ", "a1", "A", "a,b", "'a'", Check.times("a", 25), Check.times("a ", 24) + "a"}) {
            c.tape(none);
            c.due("add '" + none + "'", c.x.add(0), -3);
            c.due("count", c.x.count(0, 7), 0);
        }
        c.tape(Check.times("a ", 23) + Check.times("a", 24));
        c.due("24 words, one of 24 letters", c.x.add(0), 1);
        c.tape("a");
        c.due("one word", c.x.add(1), 2);
        c.tape("a");
        c.due("a second time", c.x.add(1), 3);
        c.refuses("no such tongue", () -> c.x.add(2));
        c.refuses("no such tongue", () -> c.x.add(-1));
        c.due("count", c.x.count(0, 7), 3);
    }

    private static void ask(Check c, int tongue, String question, int... hits) {
        c.tape(question);
        c.due("ask " + question, c.x.ask(tongue), hits.length / 2);
        for (int i = 0; i < hits.length; i++) {
            c.due(question + ": hit " + i, c.x.hit(i / 2, i % 2), hits[i]);
        }
        c.due(question + ": no more", c.x.hit(hits.length / 2, 0), -1);
    }

    private static void collect(Check c, int tongue, String... sentences) {
        for (String sentence : sentences) {
            c.tape(sentence);
            c.due("add", c.x.add(tongue) > 0 ? 1 : 0, 1);
        }
    }

    // "A QUESTION is a row of LETTERS .., NAMES of KINDS .., * (any word), 8 at most"
    private static void eightOfAQuestion() {
        Check c = Check.full("eight of a question");
        collect(c, 0, "a b c d e f g", "a b c d e f g h", "a b c d e f g h i");
        ask(c, 0, "* * * * * * * *", 1, 0, 2, 0, 2, 1);
        ask(c, 0, "*******", 0, 0, 1, 0, 1, 1, 2, 0, 2, 1, 2, 2);
        ask(c, 0, "'a''b''c''d''e''f''g''h'", 1, 0, 2, 0);
        ask(c, 0, "'b' * * * * * * 'i'", 2, 1);
        ask(c, 0, "'g' *", 1, 6, 2, 6);
        ask(c, 0, "* 'g'", 0, 5, 1, 5, 2, 5);
        for (String nine : new String[] {"*********", "********'i'", "********n", "'a''b''c''d''e''f''g''h''i'"}) {
            ask(c, 0, "'i'", 2, 8);
            c.tape(nine);
            c.due("nine are none", c.x.ask(0), -3);
            c.due("no hit is left", c.x.hit(0, 0), -1);
        }
        ask(c, 1, "*");
    }

    // ask: "(-3 if it is none; no such KIND)"
    private static void whatIsNoQuestion() {
        Check c = Check.full("what is no question");
        collect(c, 0, "the dog runs");
        for (String none : new String[] {"", "  ", "zz", "dog", "n zz", "zz n", "5", "* 5", "*;", "n,n", "(n)", "'the", "* 'the", "The", "?", "* ?", "'abcdefghijklm'", "nnnnnnnnn", "_", "#"}) {
            ask(c, 0, "d", 0, 0);
            c.tape(none);
            c.due("ask '" + none + "'", c.x.ask(0), -3);
            c.due("no hit is left", c.x.hit(0, 0), -1);
        }
        c.refuses("no such tongue", () -> c.x.ask(2));
        c.refuses("no such tongue", () -> c.x.ask(-1));
        ask(c, 0, "  d  n  ", 0, 0);
    }

    // "LETTERS (that word), NAMES of KINDS (a word with an ANALYSIS of a FUN of that KIND), * (any word)"
    private static void lettersAndKinds() {
        Check c = Check.full("letters and kinds");
        c.done("fun duck : > v; tongue en; word duck verb 'dog';", 3);
        collect(c, 0, "the dogs run", "zebra", "the zebras dog");
        collect(c, 1, "lo perro corra");
        ask(c, 0, "'dogs'", 0, 1);
        ask(c, 0, "'dog'", 2, 2);
        ask(c, 0, "'dogsx'");
        ask(c, 0, "'zebra'", 1, 0);
        ask(c, 0, "'zebras'", 2, 1);
        ask(c, 0, "'ogs'");
        ask(c, 0, "''");
        ask(c, 0, "'the' ''");
        // dog and dogs are both a n and a v.
        ask(c, 0, "n", 0, 1, 2, 2);
        ask(c, 0, "v", 0, 1, 0, 2, 2, 2);
        ask(c, 0, "n v", 0, 1);
        ask(c, 0, "v n");
        ask(c, 0, "d v", 0, 0);
        // Phrases are no words.
        ask(c, 0, "np");
        ask(c, 0, "s");
        ask(c, 0, "d * v", 0, 0, 2, 0);
        ask(c, 1, "n", 3, 1);
        ask(c, 1, "* *", 3, 0, 3, 1);
        ask(c, 1, "'dogs'");
    }

    private static void kindsOfLateWords() {
        Check c = new Check("kinds of late words");
        c.done("kind n; kind v; fun x : > n; fun y : > v; tongue t; feature f = a1 a2 a3 a4 a5 a6; feature g = b1 b2 b3 b4; pattern one { = 1 };", 8);
        c.done("pattern p {" + cells(0, 23, "x") + ",a6 b4=1+'z'};" + Check.times("word x one 'q';", 30), 31);
        c.done("word y p 'o'; word x one 'm'; word y one 'k';", 3);
        collect(c, 0, "oz m k q");
        ask(c, 0, "n", 0, 1, 0, 3);
        ask(c, 0, "v", 0, 0, 0, 2);
        ask(c, 0, "v n v n", 0, 0);
    }

    private static void asManyHitsAsCanBe() {
        Check c = new Check("2400 hits");
        c.done("kind n; tongue t;", 2);
        for (int i = 0; i < 100; i++) {
            // "a a a a a a a a a a " twice, and four more.
            c.x.feed(0x61206120, 0x61206120, 0x61206120, 0x61206120, 0x61206120);
            c.x.feed(0x61206120, 0x61206120, 0x61206120, 0x61206120, 0x61206120);
            c.x.feed(0x61206120, 0x61206120, 0x20202020, 0x20202020, 0x20202020);
            c.due("add", c.x.add(0), i + 1);
        }
        c.tape("*");
        c.due("ask", c.x.ask(0), 2400);
        for (int i : new int[] {0, 23, 24, 123, 124, 125, 2399}) {
            c.due("sentence of " + i, c.x.hit(i, 0), i / 24);
            c.due("word of " + i, c.x.hit(i, 1), i % 24);
        }
        c.due("no more", c.x.hit(2400, 0), -1);
        c.tape("********");
        c.due("ask", c.x.ask(0), 1700);
        c.due("the last", c.x.hit(1699, 1), 16);
        c.due("no more", c.x.hit(1700, 0), -1);
    }

    // hit: "-1 if there is none. IllegalArgumentException for others."
    private static void whatOfAHit() {
        Check c = Check.full("what of a hit");
        for (int what : new int[] {-2, -1, 2, 3}) {
            c.refuses("hit what " + what, () -> c.x.hit(0, what));
        }
        c.due("none at first", c.x.hit(0, 0), -1);
        c.due("none at first", c.x.hit(0, 1), -1);
        collect(c, 0, "a b", "c b");
        ask(c, 0, "'b'", 0, 1, 1, 1);
        c.due("none ahead", c.x.hit(-1, 0), -1);
        c.due("none ahead", c.x.hit(-1, 1), -1);
        c.due("none behind", c.x.hit(2, 1), -1);
        c.refuses("hit what 2", () -> c.x.hit(0, 2));
        c.refuses("hit what 2 of none", () -> c.x.hit(5, 2));
        c.refuses("no such tongue", () -> c.x.ask(2));
        c.due("it is still there", c.x.hit(1, 0), 1);
        collect(c, 0, "b");
        c.due("it is noted, not looked up", c.x.hit(2, 0), -1);
        ask(c, 0, "'z'");
        c.due("none any more", c.x.hit(0, 0), -1);
    }

    private static void mends(Check c, int kind, String sentence, int cost, String due) {
        c.tape(sentence);
        c.due("mend " + sentence, c.x.mend(0, kind), cost);
        c.dueText("mend " + sentence, c.out(), due);
    }

    // "MENDING a sentence of 12 words at most"; mend: "(-3; more than 12 words too)"
    private static void twelveWords() {
        Check c = Check.full("twelve words");
        String eleven = "the dog and the dog and the dog and the dog";
        mends(c, 6, eleven + " run", 0, eleven + " run");
        mends(c, 6, eleven + " runs", 1, eleven + " run");
        mends(c, 6, "dogs and dogs and dogs and dogs and dogs and dogs run", 0, "dogs and dogs and dogs and dogs and dogs and dogs run");
        c.tape("dogs run");
        c.due("parse", c.x.parse(0, 6), 1);
        mends(c, 6, "the dogs and dogs and dogs and dogs and dogs and dogs run", -3, "");
        c.due("no forest", c.x.trees(), 0);
        c.due("no nodes", c.x.count(0, 5), 0);
        c.tape("the dogs and dogs and dogs and dogs and dogs and dogs run");
        c.due("13 words can be parsed", c.x.parse(0, 6), 1);
        for (String none : new String[] {"", " ", "the dog, run", "Dog", "a1", Check.times("a", 25), Check.times("a ", 25), Check.times("a ", 13)}) {
            mends(c, 6, none, -3, "");
        }
        mends(c, 6, Check.times("zz ", 12), -1, "");
        for (int wrong : new int[] {-1, 2}) {
            c.refuses("no such tongue", () -> c.x.mend(wrong, 6));
        }
        for (int wrong : new int[] {-1, 7}) {
            c.refuses("no such kind", () -> c.x.mend(0, wrong));
        }
    }

    // "for 3 one word goes (not the only one)"
    private static void notTheOnlyWord() {
        Check c = Check.full("not the only word");
        mends(c, 0, "zebra", -1, "");
        mends(c, 6, "dog", -1, "");
        mends(c, 0, "zebra dog", 3, "dog");
        mends(c, 0, "dog zebra", 3, "dog");
        mends(c, 0, "zebra zebra dog", -1, "");
        mends(c, 6, "zebra the dog runs", 3, "the dog runs");
        mends(c, 6, "the zebra dog runs", 3, "the dog runs");
        mends(c, 6, "the dog zebra runs", 3, "the dog runs");
        mends(c, 6, "the dog runs zebra", 3, "the dog runs");
    }

    // "for 1 one word becomes another form of a WORD that it is a form of"
    private static void anotherForm() {
        Check c = Check.full("another form");
        mends(c, 6, "the dog run", 1, "the dogs run");
        mends(c, 6, "dog run", 1, "dogs run");
        mends(c, 4, "cat", 1, "cats");
        mends(c, 4, "flys", -1, "");
        mends(c, 4, "fly", 1, "flies");
        mends(c, 6, "every dogs runs", 1, "every dog runs");
        // Two words would have to change.
        mends(c, 6, "every dogs run", 3, "dogs run");
        mends(c, 6, "every dogs see every dogs", -1, "");
        // A form is another one by its letters, not by its CELL.
        Check d = new Check("the same letters");
        d.done("kind n; kind s; fun x : > n; fun f : n > s; tongue t; feature q = a b c; pattern p { a = 1, b = 1, c = 1 + 'c' }; word x p 'o'; lin f = 1[b] 'z'; lin f = 1[c] 'y';", 10);
        mends(d, 1, "o z", 0, "o z");
        mends(d, 1, "oc z", 1, "o z");
        mends(d, 1, "o y", 1, "oc y");
    }

    private static String cells(int from, int to, String ending) {
        StringBuilder all = new StringBuilder();
        for (int i = from; i < to; i++) {
            all.append(i == from ? "" : ",").append("a" + (i % 6 + 1) + " b" + (i / 6 + 1) + "=1" + (i == 0 ? "" : "+'" + ending + "'"));
        }
        return all.toString();
    }

    private static void formsOfThatWordAlone() {
        Check c = new Check("forms of that word alone");
        c.done("kind n; kind s; fun x : > n; fun y : > s; tongue t; feature f = a1 a2 a3 a4 a5 a6; feature g = b1 b2 b3 b4;", 7);
        c.done("pattern p {" + cells(0, 24, "x") + "}; pattern q { = 1 }; word y q 'zz'; word x p 'o'; word y q 'u'; word y p 'w';", 6);
        // The WORDS ahead of it and behind it have forms that would be right.
        mends(c, 1, "o", -1, "");
        mends(c, 1, "ox", -1, "");
        mends(c, 1, "zz", 0, "zz");
        mends(c, 0, "ox", 0, "ox");
    }

    // "the cheapest that has some"
    private static void theCheapest() {
        Check c = new Check("the cheapest");
        c.done("kind n; kind s; fun x : > n; fun f : n > s; fun g : n > s; fun h : n > s; tongue t; feature q = a b; pattern p { a = 1, b = 1 + 'b' }; word x p 'o';", 10);
        c.done("lin f = 'k' 1[b]; lin g = 1 'k'; lin g = 1 'j'; lin h = 1;", 4);
        // Each of the dearer ways would do, too.
        mends(c, 1, "o", 0, "o");
        mends(c, 1, "k o", 1, "k ob");
        mends(c, 1, "j o", 2, "o j");
        mends(c, 1, "q o", 3, "o");
        mends(c, 1, "o o", 3, "o");
        mends(c, 1, "q q o", -1, "");
    }

    // "Of one price the first place, then the first ANALYSIS and the first CELL."
    private static void ofOnePrice() {
        Check c = new Check("of one price");
        c.done("kind n; kind s; fun x : > n; fun y : > n; fun f : n n > s; fun h : n > s; tongue t; feature q = a b c; pattern p { a = 1, b = 1 + 'b', c = 1 + 'c' };", 9);
        c.done("pattern r { b = 1 + 'rb', a = 1 }; word y r 'o'; word x p 'o'; word x p 'm'; lin f = 1[b] 2[a]; lin f = 1[a] 2[b]; lin h = 'k' 1[b]; lin h = 'k' 1[c];", 8);
        mends(c, 1, "o o", 1, "orb o");
        mends(c, 1, "m m", 1, "mb m");
        mends(c, 1, "k o", 1, "k orb");
        mends(c, 1, "k m", 1, "k mb");
        // For 2 and 3 the first place, too.
        c.done("fun g : n > s; lin g = 'u' 'v' 1; lin g = 'v' 1 'u'; lin g = 'w' 1; lin g = 'z' 1;", 5);
        mends(c, 1, "v u o", 2, "u v o");
        mends(c, 1, "v u m", 2, "u v m");
        mends(c, 1, "w z m", 3, "z m");
        mends(c, 1, "z w m", 3, "w m");
        mends(c, 1, "w m m", 3, "w m");
    }

    /** A house with an o that has 989 changes by 43 WORDS, and so many more by another one. */
    private static Check changesOf(int more) {
        Check c = new Check(989 + more + " changes");
        c.done("kind n; kind s; fun x : > n; fun z : n > s; fun w : n n > s; tongue t; feature f = a1 a2 a3 a4 a5 a6; feature g = b1 b2 b3 b4;", 8);
        c.done("pattern few {" + cells(0, more + 1, "x") + "};", 1);
        c.done("pattern all of few {" + (more == 23 ? "a1 b1=1" : cells(more + 1, 24, "x")) + "};", 1);
        c.done(Check.times("word x all 'o';", 43) + "word x few 'o'; lin z = 'u' 1; lin z = 'u' 1 'w'; lin z = 1 'v' 'w'; lin w = 1[a1 b1] 2[a2];", 48);
        return c;
    }

    // "at most 1000 changed sentences are looked at (each ANALYSIS and CELL with another form is one; each two neighbours; each word)"
    private static void aThousandChanges() {
        Check c = changesOf(10);
        // 999 of price 1: the first two neighbours are the last that is looked at.
        mends(c, 1, "o u", 2, "u o");
        mends(c, 1, "o u w", 2, "u o w");
        mends(c, 1, "o w v", -1, "");
        mends(c, 1, "u v o", -1, "");
        Check d = changesOf(11);
        mends(d, 1, "o u", -1, "");
        mends(d, 1, "o u w", -1, "");
        d.tape("u o");
        d.due("the sentence itself is not counted", d.x.mend(0, 1), 0);
        Check e = changesOf(9);
        // 998 of price 1 and two neighbours.
        mends(e, 1, "o w v", 2, "o v w");
        mends(e, 1, "o u w", 2, "u o w");
        // 998, one of neighbours, and the first word goes.
        mends(e, 1, "o q", -1, "");
        e.done("fun y : > s; tongue t; lin z = 'r' 1; pattern one { = 1 }; word y one 'y';", 5);
        mends(e, 1, "o y", 3, "y");
        mends(e, 1, "y o", -1, "");
        Check f = changesOf(8);
        f.done("fun y : > s; tongue t; pattern one { = 1 }; word y one 'y';", 4);
        mends(f, 1, "y o", 3, "y");
        mends(f, 1, "o y", 3, "y");
    }

    private static void aThousandOfOneWord() {
        // 989 and 23 of the first o: those of the second are never looked at.
        Check c = changesOf(23);
        mends(c, 1, "o o", -1, "");
        mends(c, 1, "o", -1, "");
        mends(c, 1, "o o o o o o o o o o o o", -1, "");
        mends(c, 1, "u o", 0, "u o");
        Check d = new Check("fewer changes");
        d.done("kind n; kind s; fun x : > n; fun w : n n > s; tongue t; feature f = a1 a2 a3 a4 a5 a6; feature g = b1 b2 b3 b4;", 7);
        d.done("pattern all {" + cells(0, 24, "x") + "};" + Check.times("word x all 'o';", 43) + "lin w = 1[a1 b1] 2[a2];", 45);
        // 989 of the first, and the first of the second.
        mends(d, 1, "o o", 1, "o ox");
    }

    // mend: "-1 if none is found, or as soon as a parse is -1"
    private static void asSoonAsAParseFails() {
        Check c = new Check("as soon as a parse fails");
        c.done("kind n; kind k; kind m; kind s; fun x : > n; fun e : > n; fun i : > k; fun u : n > m; fun t : m > s; fun v : k > s; tongue g;", 11);
        c.done("feature f = a1 a2 a3 a4 a5 a6; feature g = b1 b2 b3 b4; pattern p {" + cells(0, 24, "x").replaceFirst("=1", "=1+'x'") + "};", 3);
        c.done(Check.times("word x p 'o';", 60), 60);
        c.done("pattern two { a1 = 1, a2 = 1 + 'x' }; word x two 'o'; pattern one { = 1 }; word e one 'e'; word i one 'i';", 5);
        c.done("lin u = 'ox' 1; lin t = 'ox' 'ox' 'ox' 'ox' 'ox' 1; lin v = 'ox' 'ox' 'ox' 'ox' 'ox' 1;", 3);
        // An ox has 1441 WAYS: six of them are fine, seven are too many, and that is what the o becomes first.
        mends(c, 3, Check.times("ox ", 6) + "e", 0, Check.times("ox ", 6) + "e");
        mends(c, 3, "o " + Check.times("ox ", 6) + "e", -1, "");
        c.due("no forest", c.x.trees(), 0);
        c.due("no nodes", c.x.count(0, 5), 0);
        mends(c, 3, "o " + Check.times("ox ", 5) + "e", 1, Check.times("ox ", 6) + "e");
        mends(c, 3, "o " + Check.times("ox ", 5) + "i", 3, Check.times("ox ", 5) + "i");
        mends(c, 3, Check.times("ox ", 7) + "e", -1, "");
        Check d = new Check("too many at once");
        d.done("kind n; kind s; fun x : > n; fun e : > s; tongue g; feature f = a1 a2 a3 a4 a5 a6; feature g = b1 b2 b3 b4; pattern one { = 1 };", 8);
        StringBuilder all = new StringBuilder();
        for (int i = 0; i < 24; i++) {
            all.append(i == 0 ? "" : ",").append("a" + (i % 6 + 1) + " b" + (i / 6 + 1) + "=1");
        }
        d.done("pattern p {" + all + "}; word e one 'e';" + Check.times("word x p 'o';", 40), 42);
        // 960 WAYS of each o: nine of them are fine, ten are too many.
        mends(d, 1, "e " + Check.times("o ", 9), -1, "");
        mends(d, 1, "e", 0, "e");
        mends(d, 1, "e o", 3, "e");
        d.tape("e o");
        d.due("parse", d.x.parse(0, 0), 0);
        d.due("ways", d.x.count(0, 6), 961);
        d.tape("e " + Check.times("o ", 10));
        d.due("parse", d.x.parse(0, 1), -1);
        mends(d, 1, "e " + Check.times("o ", 10), -1, "");
        d.due("no forest", d.x.trees(), 0);
    }

    // "400000 TRIES (.. of a mend(), of all its parses so far): -1"
    private static void triesOfAllParses() {
        Check c = new Check("tries of all parses");
        c.done("kind n; kind k; kind u; kind s; kind z; fun x : > n; fun e : > k; fun y : n n n n > s; fun j : n > z; fun v : k > s; tongue g; feature f = a1 a2 a3 a4 a5 a6;", 12);
        c.done("feature g = b1 b2 b3 b4; feature h = c1 c2; feature r = x1 x2; pattern ef { x1 = 'e', x2 = 'f' };", 4);
        c.done("pattern p19 {" + sameForm(0, 19) + "}; pattern p20 of p19 {" + sameForm(19, 20) + "}; pattern p23 of p20 {" + sameForm(20, 23) + "};", 3);
        c.done("word x p20 'a'; word x p20 'b'; word x p19 'c'; word x p23 'd'; word e ef 'z';", 5);
        // What the first two must have makes them never agree; it is only seen when all four lie.
        c.done("lin y = 1[c1] 2[c2] 3 4, agree 1 2 h; lin j = 'a' 'b' 1; lin v = 'a' 'b' 'c' 'd' 1[x2];", 3);
        // Of y over a to d: 20 + 20*20 + 20*20*19 + 20*20*19*23; over b to e: 20 + 20*19 + 20*19*23; over all: 20 + 20*20 + 20*20*19.
        // Of j: 19. Of v: 1. They are 200000, so that two parses may be, and a third may not.
        mends(c, 3, "a b c d e", 1, "a b c d f");
        mends(c, 3, "a b c d f", 0, "a b c d f");
        mends(c, 3, "a b c d e", 1, "a b c d f");
        // One more, of the second parse alone.
        c.done("fun q : > u; pattern one { = 1 }; word q one 'f'; fun w : u > z; lin w = 'd' 1;", 5);
        mends(c, 3, "a b c d e", -1, "");
        c.due("no forest", c.x.trees(), 0);
        c.due("no nodes", c.x.count(0, 5), 0);
        c.tape("a b c d f");
        c.due("a parse has but its own", c.x.parse(0, 3), 1);
        mends(c, 3, "a b c d f", 0, "a b c d f");
    }

    private static String sameForm(int from, int to) {
        StringBuilder all = new StringBuilder();
        for (int i = from; i < to; i++) {
            all.append(i == from ? "" : ",").append("a" + (i % 6 + 1) + " b" + (i / 6 + 1) + "=1");
        }
        return all.toString();
    }

    // "THE FOREST is that of what was mended."
    private static void theForestOfAMend() {
        Check c = Check.full("the forest of a mend");
        mends(c, 6, "dogs and cat run", 1, "dogs and cats run");
        c.due("trees", c.x.trees(), 1);
        c.due("price", c.x.price(0), 8);
        c.due("reading", c.x.reading(0, 0), 8);
        c.gives("show", c.x.show(0), "pred(and2(bare(dog),bare(cat)),iv(run))");
        int nodes = c.x.count(0, 5);
        c.tape("dogs and cats run");
        c.due("parse", c.x.parse(0, 6), 1);
        c.due("the same nodes", c.x.count(0, 5), nodes);
        mends(c, 6, "  dogs   run ", 0, "dogs run");
        c.due("trees", c.x.trees(), 1);
        c.due("nodes", c.x.count(0, 5), 5);
        mends(c, 6, "zebra", -1, "");
        c.due("trees", c.x.trees(), 0);
        c.due("nodes", c.x.count(0, 5), 0);
        c.due("ways", c.x.count(0, 6), 0);
        c.due("price", c.x.price(0), -1);
    }
}
