/** Promises 1 (a new object), 2 (feed), 3 (end), 6 (out) and what leaves THE TAPE as it was. */
public final class TapeTest {
    public static void main(String[] args) {
        nothingIsThere();
        feedAndEnd();
        bytesAreTheHighestFirst();
        readingEmptiesTheTape();
        throwingLeavesTheTape();
        Check.finish();
    }

    private static void nothingIsThere() {
        Check c = new Check("a new object");
        for (int what = 0; what <= 7; what++) {
            c.due("count " + what, c.x.count(-5, what), 0);
        }
        for (int what = 8; what <= 14; what++) {
            int w = what;
            c.refuses("count " + what, () -> c.x.count(0, w));
        }
        c.due("rule", c.x.rule(), 0);
        c.due("out", c.x.out(0), -1);
        c.due("out below 0", c.x.out(-1), -1);
        c.due("trees", c.x.trees(), 0);
        c.due("price", c.x.price(0), -1);
        c.due("reading", c.x.reading(0, 0), -1);
        c.due("analysis", c.x.analysis(0, 0), -1);
        c.due("guessed", c.x.guessed(0, 0), -1);
        c.due("hit", c.x.hit(0, 0), -1);
        c.due("candidate", c.x.candidate(0), -1);
        for (int place = 0; place < 8; place++) {
            c.due("show", c.x.show(place), -1);
            c.due("mean", c.x.mean(place), -4);
            c.due("truth", c.x.truth(place), -4);
            c.due("same", c.x.same(place, 0) ? 1 : 0, 1);
        }
        c.due("module of nothing", c.x.module(), 0);
        c.refuses("parse", () -> c.x.parse(0, 0));
        c.refuses("bar", () -> c.x.bar(0, true));
    }

    private static void feedAndEnd() {
        Check c = new Check("feed and end");
        c.due("end of nothing", c.x.end(0), 0);
        c.refuses("end 1 of nothing", () -> c.x.end(1));
        for (int i = 1; i <= 50; i++) {
            c.due("feed " + i, c.x.feed(0x20202020, 0x20202020, 0x20202020, 0x20202020, 0x20202020), 20 * i);
        }
        c.refusesNow("feed 51", () -> c.x.feed(0, 0, 0, 0, 0));
        c.due("end of all", c.x.end(1000), 1000);
        c.refuses("end above", () -> c.x.end(1001));
        c.refuses("end below", () -> c.x.end(-1));
        c.due("end 981", c.x.end(981), 981);
        c.refusesNow("feed above 1000", () -> c.x.feed(0, 0, 0, 0, 0));
        c.due("end 980", c.x.end(980), 980);
        c.refuses("end must not grow", () -> c.x.end(981));
        c.due("feed to 1000", c.x.feed(0x6b696e64, 0x20612020, 0x20202020, 0x20202020, 0x20202020), 1000);
        c.due("module that is not ended", c.x.module(), -1001);
        c.due("rule", c.x.rule(), 1);
    }

    private static void bytesAreTheHighestFirst() {
        Check c = new Check("bytes");
        c.due("feed", c.x.feed(0x6b696e64, 0x20616263, 0x64656667, 0x683b6b69, 0x6e64207a), 20);
        c.due("feed", c.x.feed(0x3b800000, 0, 0, 0, 0), 40);
        c.due("end", c.x.end(21), 21);
        c.due("module", c.x.module(), 2);
        c.tape("abcdefgh");
        c.due("number of abcdefgh", c.x.number(0, 1), 0);
        c.tape("z");
        c.due("number of z", c.x.number(0, 1), 1);
        c.x.feed(0x80000000, 0, 0, 0, 0);
        c.due("module of a byte above 127", c.x.module(), -1);
        c.due("rule", c.x.rule(), 1);
    }

    private static void readingEmptiesTheTape() {
        Check c = Check.full("what reads the tape");
        Check.Call[] calls = {
            () -> c.x.module(), () -> c.x.number(0, 1), () -> c.x.sounds(0), () -> c.x.analyse(0), () -> c.x.guess(0),
            () -> c.x.parse(0, 6), () -> c.x.tree(0), () -> c.x.swap(0, 6, 1), () -> c.x.add(0), () -> c.x.ask(0),
            () -> c.x.mend(0, 6)
        };
        for (int i = 0; i < calls.length; i++) {
            int number = i;
            c.tape("dog");
            calls[i].answer();
            c.refuses("end after call " + number, () -> c.x.end(1));
            c.tape("?");
            calls[i].answer();
            c.refuses("end after call " + number + " of what is wrong", () -> c.x.end(1));
        }
        c.tape("kind zz;");
        c.due("module", c.x.module(), 1);
        c.refuses("end after a module that was done", () -> c.x.end(1));
    }

    private static void throwingLeavesTheTape() {
        Check c = Check.full("what throws");
        c.tape("dog");
        c.refuses("number what", () -> c.x.number(0, 6));
        c.refuses("number what below", () -> c.x.number(0, -1));
        c.refuses("number tongue", () -> c.x.number(2, 3));
        c.refuses("sounds", () -> c.x.sounds(-1));
        c.refuses("analyse", () -> c.x.analyse(2));
        c.refuses("guess", () -> c.x.guess(2));
        c.refuses("parse tongue", () -> c.x.parse(2, 0));
        c.refuses("parse kind", () -> c.x.parse(0, 7));
        c.refuses("parse kind below", () -> c.x.parse(0, -1));
        c.refuses("tree", () -> c.x.tree(8));
        c.refuses("tree below", () -> c.x.tree(-1));
        c.refuses("swap tongue", () -> c.x.swap(2, 0, 0));
        c.refuses("swap kind", () -> c.x.swap(0, 7, 0));
        c.refuses("swap other", () -> c.x.swap(0, 0, 2));
        c.refuses("add", () -> c.x.add(-1));
        c.refuses("ask", () -> c.x.ask(2));
        c.refuses("mend tongue", () -> c.x.mend(2, 0));
        c.refuses("mend kind", () -> c.x.mend(0, 7));
        c.due("the tape is as it was", c.x.end(3), 3);
        c.due("and can be read", c.x.analyse(0), 1);
    }
}
