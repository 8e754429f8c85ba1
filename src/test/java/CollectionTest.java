/** Promises 27 (add), 28 (ask) and 29 (hit). */
public final class CollectionTest {
    public static void main(String[] args) {
        questions();
        noQuestions();
        hundred();
        Check.finish();
    }

    private static void collect(Check c, int tongue, String sentence, int due) {
        c.tape(sentence);
        c.due("add " + sentence, c.x.add(tongue), due);
    }

    private static void ask(Check c, int tongue, String question, int... hits) {
        c.tape(question);
        c.due("ask " + question, c.x.ask(tongue), hits.length / 2);
        for (int i = 0; i < hits.length / 2; i++) {
            c.due(question + ": sentence of hit " + i, c.x.hit(i, 0), hits[2 * i]);
            c.due(question + ": word of hit " + i, c.x.hit(i, 1), hits[2 * i + 1]);
        }
        c.due(question + ": no more hits", c.x.hit(hits.length / 2, 0), -1);
    }

    private static void questions() {
        Check c = Check.full("questions");
        ask(c, 0, "n");
        collect(c, 0, "the dog  runs", 1);
        collect(c, 0, "the cats see the dog", 2);
        collect(c, 1, "lo perro corra", 3);
        collect(c, 0, "zebra", 4);
        collect(c, 0, "the dog runs", 5);
        c.due("count", c.x.count(0, 7), 5);
        ask(c, 0, "d n", 0, 0, 1, 0, 1, 3, 4, 0);
        ask(c, 0, "'the' * 'see'", 1, 0);
        ask(c, 1, "n", 2, 1);
        ask(c, 0, "n", 0, 1, 1, 1, 1, 4, 4, 1);
        ask(c, 0, "*", 0, 0, 0, 1, 0, 2, 1, 0, 1, 1, 1, 2, 1, 3, 1, 4, 3, 0, 4, 0, 4, 1, 4, 2);
        ask(c, 0, "* * * *", 1, 0, 1, 1);
        ask(c, 0, "* * * * *", 1, 0);
        ask(c, 0, "* * * * * * * *");
        ask(c, 0, "'zebra'", 3, 0);
        ask(c, 0, "'yebra'");
        ask(c, 0, "'zebre'");
        ask(c, 0, "'zebr'");
        ask(c, 0, "''");
        ask(c, 0, "np");
        ask(c, 0, "*'dog'v", 0, 0, 4, 0);
        ask(c, 0, "'perro'");
        ask(c, 1, "'perro'*", 2, 1);
        c.due("hit -1", c.x.hit(-1, 0), -1);
        c.refuses("hit what 2", () -> c.x.hit(0, 2));
        c.refuses("hit what -1", () -> c.x.hit(0, -1));
        c.refuses("ask in no tongue", () -> c.x.ask(2));
        c.due("what throws leaves them", c.x.hit(0, 0), 2);
        // Words are looked up as they are now.
        c.done("tongue en; word dog reg 'zebra';", 2);
        ask(c, 0, "n", 0, 1, 1, 1, 1, 4, 3, 0, 4, 1);
    }

    private static void noQuestions() {
        Check c = Check.full("no questions");
        collect(c, 0, "the dog runs", 1);
        for (String none : new String[] {"", "  ", "dog", "zz", "n dog", "1", "n,n", "'the", "* * * * * * * * *", "?", "n ;"}) {
            ask(c, 0, "n", 0, 1);
            c.tape(none);
            c.due("ask " + none, c.x.ask(0), -3);
            c.due("no hit is left", c.x.hit(0, 0), -1);
        }
        for (String none : new String[] {"", " ", "the dog!", "The", Check.times("a ", 25), Check.times("a", 25)}) {
            c.tape(none);
            c.due("add " + none, c.x.add(0), -3);
        }
        c.due("count", c.x.count(0, 7), 1);
        c.refuses("add to no tongue", () -> c.x.add(2));
        c.refuses("add to tongue -1", () -> c.x.add(-1));
    }

    private static void hundred() {
        Check c = new Check("hundred");
        c.done("kind n; fun dog : > n; tongue en; pattern p { = 1 }; word dog p 'dog';", 5);
        String long24 = Check.times("dog ", 24);
        for (int i = 1; i <= 99; i++) {
            collect(c, 0, "dog", i);
        }
        collect(c, 0, long24, 100);
        c.tape("dog");
        c.refusesNow("add 101", () -> c.x.add(0));
        c.due("the tape stays", c.x.end(3), 3);
        c.due("analyse", c.x.analyse(0), 1);
        c.refusesNow("add of nothing", () -> c.x.add(0));
        c.due("count", c.x.count(0, 7), 100);
        c.tape("n");
        c.due("ask", c.x.ask(0), 99 + 24);
        c.due("the last sentence", c.x.hit(122, 0), 99);
        c.due("the last word", c.x.hit(122, 1), 23);
        c.due("no more", c.x.hit(123, 0), -1);
    }
}
