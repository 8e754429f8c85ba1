/**
 * A house with what the tests need to talk to it: texts in and out, and answers held against those that are due. A house is good
 * for 512 calls, each piece of 20 bytes in and each byte out is one: tests with many texts need several houses.
 */
final class Check {
    interface Call {
        long answer();
    }

    static final String KINDS = "kind n; kind a; kind d; kind v; kind np; kind vp; kind s;";
    static final String FUNS = "fun dog : > n; fun cat : > n cost 1; fun fly : > n; fun big : > a; fun the : > d; fun every : > d; "
            + "fun run : > v; fun see : > v; fun mod : a n > n cost 2; fun det : d n > np; fun bare : n > np cost 3; "
            + "fun iv : v > vp; fun tv : v np > vp; fun pred : np vp > s; fun and2 : np np > np cost 1;";
    static final String ENGLISH = "tongue en; feature num = sg pl; letters hiss = 'sxz'; sound 'ys' > 'ies' / _ #; "
            + "sound 's' > 'es' / hiss _ #; pattern reg { sg = 1, pl = 1 + 's' }; pattern verb { sg = 1 + 's', pl = 1 }; "
            + "pattern inv { = 1 }; word dog reg 'dog'; word cat reg 'cat'; word fly reg 'fly'; word big inv 'big'; "
            + "word the inv 'the'; word every inv 'every' has sg; word run verb 'run'; word see verb 'see';";
    static final String ENGLISH_LINS = "lin mod = 1 2, give 2 num; lin det = 1 2, agree 1 2 num, give 2 num; "
            + "lin bare = 1[pl], give 1 num; lin iv = 1, give 1 num; lin tv = 1 2, give 1 num; lin pred = 1 2, agree 1 2 num; "
            + "lin and2 = 1 'and' 2, give pl;";
    static final String SPANISH = "tongue es; feature num = one many; pattern nm { one = 1 + 'o', many = 1 + 'os' }; "
            + "pattern vb { one = 1 + 'a', many = 1 + 'an' }; word dog nm 'perr'; word cat nm 'gat'; word big nm 'grand'; "
            + "word the nm 'l'; word run vb 'corr'; word see vb 've'; lin mod = 2 1, agree 1 2 num, give 2 num; "
            + "lin det = 1 2, agree 1 2 num, give 2 num; lin bare = 1[many], give many; lin iv = 1, give 1 num; "
            + "lin tv = 1 'a' 2, give 1 num; lin pred = 1 2, agree 1 2 num; lin and2 = 1 'y' 2, give many;";
    static final String WORLD = "thing rex; thing tom; fact dog rex; fact cat tom; fact run rex; fact see rex tom; "
            + "mean dog = dog; mean cat = cat; mean run = run; mean see = see; mean the = \\p.\\q.some(\\x.and(p(x),q(x))); "
            + "mean every = \\p.\\q.all(\\x.if(p(x),q(x))); mean big = \\p.\\x.and(p(x),big(x)); mean mod = 1(2); "
            + "mean det = 1(2); mean bare = \\q.some(\\x.and(1(x),q(x))); mean iv = 1; mean tv = \\x.2(\\y.1(y,x)); "
            + "mean pred = 1(2); mean and2 = \\q.and(1(q),2(q));";

    private static int wrong;

    final TongueHouse x = new TongueHouse();
    private final String name;

    Check(String name) {
        this.name = name;
    }

    /** A house with two tongues and a world. */
    static Check full(String name) {
        Check c = new Check(name);
        c.done(KINDS, 7);
        c.done(FUNS, 15);
        c.done(ENGLISH, 16);
        c.done(ENGLISH_LINS, 7);
        c.done(SPANISH, 17);
        c.done(WORLD, 20);
        return c;
    }

    /** The text comes to the tape, which is emptied first. */
    Check tape(String text) {
        x.end(0);
        for (int i = 0; i < text.length(); i += 20) {
            int[] four = new int[5];
            for (int k = 0; k < 20; k++) {
                int c = i + k < text.length() ? text.charAt(i + k) & 255 : 0;
                four[k / 4] = four[k / 4] << 8 | c;
            }
            x.feed(four[0], four[1], four[2], four[3], four[4]);
        }
        x.end(text.length());
        return this;
    }

    /** These STATEMENTS are right: so many. */
    void done(String text, int statements) {
        tape(text);
        due("module of " + text, x.module(), statements);
        due("rule after " + text, x.rule(), 0);
    }

    /** A STATEMENT is wrong at the byte where the mark ^ stands (it is taken out), by this RULE. */
    void wrongAt(String marked, int rule) {
        int at = marked.indexOf('^');
        tape(marked.substring(0, at) + marked.substring(at + 1));
        due("module of " + marked, x.module(), -1 - at);
        due("rule after " + marked, x.rule(), rule);
    }

    String out() {
        StringBuilder text = new StringBuilder();
        for (int c = x.out(0); c >= 0; c = x.out(text.length())) {
            text.append((char) c);
        }
        return text.toString();
    }

    /** A call that gives OUT answers how many bytes it has. */
    void gives(String what, int got, String text) {
        due(what, got, text.length());
        dueText(what, out(), text);
    }

    /** A call that tells below 0 leaves OUT empty. */
    void givesNone(String what, int got, int want) {
        due(what, got, want);
        due(what + ": out(0)", x.out(0), -1);
    }

    void due(String what, long got, long want) {
        if (got != want) {
            tell(what + " answered " + got + ", due is " + want);
        }
    }

    void dueText(String what, String got, String want) {
        if (!got.equals(want)) {
            tell(what + " gave \"" + got + "\", due is \"" + want + "\"");
        }
    }

    void refuses(String what, Call call) {
        throwsOne(what, call, IllegalArgumentException.class);
    }

    void refusesNow(String what, Call call) {
        throwsOne(what, call, IllegalStateException.class);
    }

    private void throwsOne(String what, Call call, Class<?> due) {
        try {
            long got = call.answer();
            tell(what + " answered " + got + ", due is " + due.getSimpleName());
        } catch (RuntimeException e) {
            if (e.getClass() != due) {
                tell(what + " threw " + e + ", due is " + due.getSimpleName());
            }
        }
    }

    private void tell(String line) {
        wrong++;
        System.out.println(name + ": " + line);
    }

    static String times(String text, int n) {
        StringBuilder all = new StringBuilder();
        for (int i = 0; i < n; i++) {
            all.append(text);
        }
        return all.toString();
    }

    static void finish() {
        System.out.println(wrong == 0 ? "all answers are as due" : wrong + " answers are not as due");
        if (wrong != 0) {
            System.exit(1);
        }
    }
}
