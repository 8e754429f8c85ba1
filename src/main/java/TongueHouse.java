import java.util.Arrays;

/**
 * A house of tongues: sounds, forms, grammars, forests, meanings, a collection and mended sentences.
 *
 * <p>All rows are made once and used again, so that a long run of calls makes hardly any new object.
 */
public final class TongueHouse {
    private static final int MOST_TONGUES = 8;
    private static final int MOST_KINDS = 32;
    private static final int MOST_FUNS = 96;
    private static final int MOST_ARGS = 4;
    private static final int MOST_FEATURES = 8;
    private static final int MOST_VALUES = 6;
    private static final int MOST_CLASSES = 16;
    private static final int MOST_SOUNDS = 24;
    private static final int MOST_PATTERNS = 24;
    private static final int MOST_CELLS = 24;
    private static final int MOST_WORDS = 64;
    private static final int MOST_LINS = 4;
    private static final int MOST_ITEMS = 6;
    private static final int MOST_SAID = 6;
    private static final int MOST_THINGS = 8;
    private static final int MOST_FACTS = 64;
    private static final int MOST_COST = 10000;
    private static final int MOST_LETTERS = 24;
    private static final int MOST_SENTENCE = 24;
    private static final int MOST_READINGS = 16;
    private static final int MOST_OPTIONS = 24;
    private static final int MOST_SAID_BYTES = 200;
    private static final int TREE_ROOM = 60;
    private static final int PLACES = 8;
    private static final int TERM_ROOM = 40;
    private static final int MEND_WORDS = 12;
    private static final int MEND_LOOKS = 1000;
    private static final int CHANGE_COST = 16;
    private static final int CHANGE_PLACE = 11;
    private static final int CHANGE_PLACE_MASK = 31;
    private static final int CHANGE_FORM_MASK = 2047;

    // What a VALUE takes of the packed VALUES of a PHRASE; the first FEATURE stands highest, so that numbers compare as rows do.
    private static final int VALUE_BITS = 3;
    private static final int VALUE_MASK = 7;
    private static final int TOP_SHIFT = VALUE_BITS * (MOST_FEATURES - 1);

    private static final int MISSING = -1;
    private static final int NO_TEXT = -3;
    private static final int NO_TREE = -4;

    private final Store store = new Store();
    private final Text tape = new Text();
    private final Text out = new Text();
    private final Text base = new Text();
    private final Text draft = new Text();
    private final Reader reader = new Reader(store, tape);
    private final Chart chart = new Chart(store);
    private final Ranking ranking = new Ranking(store, chart);
    private final Sayer sayer = new Sayer(store);
    private final Thought thought = new Thought(store);
    private final Finder finder = new Finder(store);
    // One row more than there are places: swap() says trees that come to no place.
    private final int[][] planted = new int[PLACES + 1][TREE_ROOM];
    private final int[] plantedSize = new int[PLACES + 1];
    private final byte[][] candidates = new byte[MOST_READINGS][MOST_SAID_BYTES];
    private final int[] candidateSize = new int[MOST_READINGS];
    private int candidateCount;
    private final int[] changes = new int[MEND_LOOKS];

    public TongueHouse() {
    }

    public int feed(int a, int b, int c, int d, int e) throws IllegalStateException {
        if (tape.size + 20 > Text.ROOM) {
            throw new IllegalStateException("the tape would be too long");
        }
        tape.putFour(a);
        tape.putFour(b);
        tape.putFour(c);
        tape.putFour(d);
        tape.putFour(e);
        return tape.size;
    }

    public int end(int n) throws IllegalArgumentException {
        if (n < 0 || n > tape.size) {
            throw new IllegalArgumentException("the tape has not so many bytes");
        }
        tape.size = n;
        return n;
    }

    public int module() {
        reader.begin();
        int done = 0;
        while (done < Text.ROOM && tape.type != Text.END) {
            if (!reader.readStatement()) {
                store.restore();
                tape.size = 0;
                return -1 - reader.where;
            }
            done++;
        }
        tape.size = 0;
        return done;
    }

    public int rule() {
        return reader.rule;
    }

    public int out(int i) {
        return i >= 0 && i < out.size ? out.bytes[i] & 255 : MISSING;
    }

    public int number(int tongue, int what) throws IllegalArgumentException {
        if (what < 0 || what > 5) {
            throw new IllegalArgumentException("no such what");
        }
        Names names = store.kinds;
        if (what == 0) {
            names = store.tongueNames;
        } else if (what == 2) {
            names = store.funs;
        } else if (what > 2) {
            Tongue t = tongueAt(tongue);
            names = t.namesOf(what);
        }
        long name = tape.onlyName();
        tape.size = 0;
        return name == 0 ? MISSING : names.find(name);
    }

    public int sounds(int tongue) throws IllegalArgumentException {
        Tongue t = tongueAt(tongue);
        out.size = 0;
        int n = NO_TEXT;
        if (tape.isWord()) {
            n = t.forms.soundWord(t, tape);
        }
        tape.size = 0;
        if (n > 0) {
            out.putBytes(t.forms.from, 0, n);
        }
        return n;
    }

    public int analyse(int tongue) throws IllegalArgumentException {
        Tongue t = tongueAt(tongue);
        t.forms.build(t);
        int n = finder.noteAnalyses(tongue, t, tape);
        tape.size = 0;
        return n;
    }

    public int analysis(int i, int what) throws IllegalArgumentException {
        if (what < 0 || what > 3 + MOST_FEATURES) {
            throw new IllegalArgumentException("no such what");
        }
        return finder.tellAnalysis(i, what);
    }

    public int cell(int tongue, int word, int cell) throws IllegalArgumentException {
        Tongue t = tongueAt(tongue);
        if (word < 0 || word >= t.wordCount) {
            throw new IllegalArgumentException("no such word");
        }
        if (cell < 0 || cell >= t.cellsOf(word)) {
            throw new IllegalArgumentException("no such cell");
        }
        out.size = 0;
        t.forms.build(t);
        int id = word * MOST_CELLS + cell;
        int n = t.forms.size[id];
        if (n <= 0) {
            return MISSING;
        }
        out.putBytes(t.forms.text, id * MOST_LETTERS, n);
        return n;
    }

    public int guess(int tongue) throws IllegalArgumentException {
        Tongue t = tongueAt(tongue);
        t.forms.build(t);
        int n = finder.noteGuesses(t, tape);
        tape.size = 0;
        return n;
    }

    public int guessed(int i, int what) throws IllegalArgumentException {
        if (what < 0 || what > 3) {
            throw new IllegalArgumentException("no such what");
        }
        return finder.tellGuess(i, what);
    }

    public int parse(int tongue, int kind) throws IllegalArgumentException {
        Tongue t = tongueAt(tongue);
        checkKind(kind);
        int answer = parseTape(t, kind);
        tape.size = 0;
        return answer;
    }

    public long trees() {
        return ranking.total();
    }

    public long bar(int fun, boolean on) throws IllegalArgumentException {
        if (fun < 0 || fun >= store.funs.size) {
            throw new IllegalArgumentException("no such fun");
        }
        ranking.setBarred(fun, on);
        return ranking.total();
    }

    public int price(int i) {
        return ranking.priceOf(i);
    }

    public int reading(int i, int place) throws IllegalArgumentException {
        checkPlace(place);
        // It is spelled out aside first: what fails must leave the place as it was.
        int n = ranking.spell(i, planted[PLACES]);
        if (n > 0) {
            System.arraycopy(planted[PLACES], 0, planted[place], 0, n);
            plantedSize[place] = n;
        }
        return n;
    }

    public int tree(int place) throws IllegalArgumentException {
        checkPlace(place);
        int n = reader.readTree(planted[PLACES]);
        tape.size = 0;
        if (n > 0) {
            System.arraycopy(planted[PLACES], 0, planted[place], 0, n);
            plantedSize[place] = n;
        }
        return n;
    }

    public int show(int place) throws IllegalArgumentException {
        checkPlace(place);
        out.size = 0;
        if (plantedSize[place] == 0) {
            return MISSING;
        }
        store.writeTree(planted[place], plantedSize[place], out);
        return out.size;
    }

    public boolean same(int place, int other) throws IllegalArgumentException {
        checkPlace(place);
        checkPlace(other);
        if (plantedSize[place] != plantedSize[other]) {
            return false;
        }
        for (int i = 0; i < plantedSize[place]; i++) {
            if (planted[place][i] != planted[other][i]) {
                return false;
            }
        }
        return true;
    }

    public int say(int tongue, int place, int i) throws IllegalArgumentException {
        Tongue t = tongueAt(tongue);
        checkPlace(place);
        out.size = 0;
        if (plantedSize[place] == 0 || i < 0) {
            return MISSING;
        }
        t.forms.build(t);
        if (i >= sayer.findOptions(t, planted[place], plantedSize[place])) {
            return MISSING;
        }
        sayer.write(i, out);
        return out.size;
    }

    public int mean(int place) throws IllegalArgumentException {
        checkPlace(place);
        out.size = 0;
        int wrong = meaningOf(place);
        if (wrong < 0) {
            return wrong;
        }
        thought.tell(out);
        return out.size;
    }

    public int truth(int place) throws IllegalArgumentException {
        checkPlace(place);
        int wrong = meaningOf(place);
        return wrong < 0 ? wrong : thought.judge();
    }

    public int swap(int tongue, int kind, int other) throws IllegalArgumentException {
        Tongue t = tongueAt(tongue);
        checkKind(kind);
        Tongue o = tongueAt(other);
        candidateCount = 0;
        int answer = parseTape(t, kind);
        tape.size = 0;
        if (answer < 0) {
            return answer;
        }
        o.forms.build(o);
        for (int i = 0; i < MOST_READINGS; i++) {
            int n = ranking.spell(i, planted[PLACES]);
            if (n > 0 && sayer.findOptions(o, planted[PLACES], n) > 0) {
                draft.size = 0;
                sayer.write(0, draft);
                noteCandidate();
            }
        }
        return candidateCount;
    }

    public int candidate(int i) {
        out.size = 0;
        if (i < 0 || i >= candidateCount) {
            return MISSING;
        }
        out.putBytes(candidates[i], 0, candidateSize[i]);
        return out.size;
    }

    public int add(int tongue) throws IllegalArgumentException, IllegalStateException {
        tongueAt(tongue);
        if (finder.isFull()) {
            throw new IllegalStateException("the collection is full");
        }
        int n = tape.split() ? finder.collect(tongue, tape) : NO_TEXT;
        tape.size = 0;
        return n;
    }

    public int ask(int tongue) throws IllegalArgumentException {
        Tongue t = tongueAt(tongue);
        t.forms.build(t);
        int n = finder.search(tongue, t, tape);
        tape.size = 0;
        return n;
    }

    public int hit(int i, int what) throws IllegalArgumentException {
        if (what < 0 || what > 1) {
            throw new IllegalArgumentException("no such what");
        }
        return finder.tellHit(i, what);
    }

    public int mend(int tongue, int kind) throws IllegalArgumentException {
        Tongue t = tongueAt(tongue);
        checkKind(kind);
        out.size = 0;
        ranking.close();
        chart.forget();
        boolean fits = tape.split() && tape.words <= MEND_WORDS;
        base.size = 0;
        base.putWords(tape);
        tape.size = 0;
        if (!base.split() || !fits) {
            return NO_TEXT;
        }
        t.forms.build(t);
        chart.forgetTries();
        Text mended = base;
        int cost = 0;
        int found = chart.fill(t, base, kind);
        int n = found == 0 ? listChanges(t) : 0;
        for (int i = 0; i < n && found == 0; i++) {
            mended = draft;
            cost = changes[i] >> CHANGE_COST;
            writeChange(t, changes[i]);
            found = draft.split() ? chart.fill(t, draft, kind) : 0;
        }
        if (found <= 0) {
            chart.forget();
            return MISSING;
        }
        out.putWords(mended);
        ranking.open(t);
        return cost;
    }

    public int count(int tongue, int what) throws IllegalArgumentException {
        if (what < 0 || what > 14) {
            throw new IllegalArgumentException("no such what");
        }
        if (what >= 8) {
            return tongueAt(tongue).sizeOf(what);
        }
        switch (what) {
            case 5:
                return chart.nodes;
            case 6:
                return chart.ways;
            case 7:
                return finder.collected;
            default:
                return store.sizeOf(what);
        }
    }

    private Tongue tongueAt(int tongue) {
        if (tongue < 0 || tongue >= store.tongueNames.size || store.tongues[tongue] == null) {
            throw new IllegalArgumentException("no such tongue");
        }
        return store.tongues[tongue];
    }

    private void checkKind(int kind) {
        if (kind < 0 || kind >= store.kinds.size) {
            throw new IllegalArgumentException("no such kind");
        }
    }

    private static void checkPlace(int place) {
        if (place < 0 || place >= PLACES) {
            throw new IllegalArgumentException("no such place");
        }
    }

    private int parseTape(Tongue t, int kind) {
        ranking.close();
        chart.forget();
        if (!tape.split()) {
            return NO_TEXT;
        }
        t.forms.build(t);
        chart.forgetTries();
        int answer = chart.fill(t, tape, kind);
        if (answer == 1) {
            ranking.open(t);
        }
        return answer;
    }

    private int meaningOf(int place) {
        if (plantedSize[place] == 0) {
            return NO_TREE;
        }
        return thought.ponder(planted[place], plantedSize[place]);
    }

    private void noteCandidate() {
        if (candidateCount >= MOST_READINGS || draft.size > MOST_SAID_BYTES) {
            return;
        }
        for (int i = 0; i < candidateCount; i++) {
            if (draft.equalsBytes(candidates[i], candidateSize[i])) {
                return;
            }
        }
        System.arraycopy(draft.bytes, 0, candidates[candidateCount], 0, draft.size);
        candidateSize[candidateCount] = draft.size;
        candidateCount++;
    }

    /** The changed sentences to look at, in their order, each as its price, its place and a form in one number: how many. */
    private int listChanges(Tongue t) {
        int n = 0;
        for (int place = 0; place < base.words; place++) {
            int from = base.start[place];
            int size = base.len[place];
            int found = t.forms.findSame(base.bytes, from, size);
            for (int i = 0; i < found; i++) {
                int word = t.forms.found[i] / MOST_CELLS;
                int end = word * MOST_CELLS + t.cellsOf(word);
                for (int id = word * MOST_CELLS; id < end && n < MEND_LOOKS; id++) {
                    if (t.forms.size[id] > 0 && !t.forms.isForm(id, base.bytes, from, size)) {
                        changes[n++] = 1 << CHANGE_COST | place << CHANGE_PLACE | id;
                    }
                }
            }
        }
        for (int place = 0; place + 1 < base.words && n < MEND_LOOKS; place++) {
            changes[n++] = 2 << CHANGE_COST | place << CHANGE_PLACE;
        }
        for (int place = 0; place < base.words && base.words > 1 && n < MEND_LOOKS; place++) {
            changes[n++] = 3 << CHANGE_COST | place << CHANGE_PLACE;
        }
        return n;
    }

    private void writeChange(Tongue t, int change) {
        int cost = change >> CHANGE_COST;
        int place = change >> CHANGE_PLACE & CHANGE_PLACE_MASK;
        int id = change & CHANGE_FORM_MASK;
        draft.size = 0;
        draft.putWordsBetween(base, 0, place);
        if (cost == 1) {
            draft.putSpaced(t.forms.text, id * MOST_LETTERS, t.forms.size[id]);
        } else if (cost == 2) {
            draft.putWordsBetween(base, place + 1, place + 2);
            draft.putWordsBetween(base, place, place + 1);
        }
        draft.putWordsBetween(base, cost == 2 ? place + 2 : place + 1, base.words);
    }

    /** Bytes that can be read as TOKENS, one at hand at a time, or as words. */
    private static final class Text {
        static final int ROOM = 1000;
        static final int NAME = 1;
        static final int NUMBER = 2;
        static final int LETTERS = 3;
        static final int END = 4;
        static final int BAD = 5;

        final byte[] bytes = new byte[ROOM];
        int size;
        final int[] start = new int[MOST_SENTENCE];
        final int[] len = new int[MOST_SENTENCE];
        int words;
        int at;
        int next;
        int type;
        int value;
        long name;

        void put(int c) {
            if (size < ROOM) {
                bytes[size++] = (byte) c;
            }
        }

        void putFour(int four) {
            put(four >> 24);
            put(four >> 16);
            put(four >> 8);
            put(four);
        }

        void putBytes(byte[] more, int from, int n) {
            for (int i = from; i < from + n && i < more.length; i++) {
                put(more[i]);
            }
        }

        void putSpaced(byte[] more, int from, int n) {
            if (size > 0) {
                put(' ');
            }
            putBytes(more, from, n);
        }

        void putWordsBetween(Text other, int from, int to) {
            for (int i = from; i < to && i < other.words; i++) {
                putSpaced(other.bytes, other.start[i], other.len[i]);
            }
        }

        void putWords(Text other) {
            putWordsBetween(other, 0, other.words);
        }

        void putName(long packed) {
            for (int shift = 56; shift >= 0; shift -= 8) {
                int c = (int) (packed >> shift) & 255;
                if (c != 0) {
                    put(c);
                }
            }
        }

        void putNumber(int n) {
            int ten = 1;
            while (ten <= n / 10 && ten < 100000000) {
                ten *= 10;
            }
            for (int t = ten; t > 0; t /= 10) {
                put('0' + n / t % 10);
            }
        }

        boolean equalsBytes(byte[] other, int n) {
            if (n != size || n > other.length) {
                return false;
            }
            for (int i = 0; i < n; i++) {
                if (bytes[i] != other[i]) {
                    return false;
                }
            }
            return true;
        }

        static boolean isLetter(int c) {
            return c >= 'a' && c <= 'z';
        }

        static boolean isSign(int c) {
            switch (c) {
                case ';': case '=': case '+': case '>': case '/': case '_': case '#': case '(': case ')': case ',':
                case ':': case '.': case '-': case '*': case '\\': case '[': case ']': case '{': case '}':
                    return true;
                default:
                    return false;
            }
        }

        boolean isWord() {
            for (int i = 0; i < size; i++) {
                if (!isLetter(bytes[i])) {
                    return false;
                }
            }
            return size >= 1 && size <= MOST_LETTERS;
        }

        boolean split() {
            words = 0;
            int n = 0;
            int p = 0;
            while (p < size) {
                if (bytes[p] == ' ') {
                    p++;
                    continue;
                }
                int from = p;
                while (p < size && isLetter(bytes[p])) {
                    p++;
                }
                if (p == from || p - from > MOST_LETTERS || n == MOST_SENTENCE) {
                    return false;
                }
                start[n] = from;
                len[n] = p - from;
                n++;
            }
            words = n;
            return n > 0;
        }

        void rewind() {
            next = 0;
            advance();
        }

        void advance() {
            int p = next;
            while (p < size && bytes[p] == ' ') {
                p++;
            }
            at = p;
            if (p >= size) {
                type = END;
                at = size;
                next = size;
                return;
            }
            int c = bytes[p];
            if (isLetter(c)) {
                takeName();
            } else if (c >= '0' && c <= '9') {
                takeNumber();
            } else if (c == '\'') {
                takeLetters();
            } else {
                type = isSign(c) ? c : BAD;
                next = p + 1;
            }
        }

        // The longest TOKEN that can stand here; each of these three goes on from where it begins.
        private void takeName() {
            int p = at;
            name = 0;
            for (; p < size && p < at + 8; p++) {
                int c = bytes[p];
                if ((c < 'a' || c > 'z') && (c < '0' || c > '9')) {
                    break;
                }
                name = name << 8 | c;
            }
            type = NAME;
            next = p;
        }

        private void takeNumber() {
            int p = at;
            value = 0;
            for (; p < size && p < at + 6 && bytes[p] >= '0' && bytes[p] <= '9'; p++) {
                value = value * 10 + bytes[p] - '0';
            }
            type = NUMBER;
            next = p;
        }

        private void takeLetters() {
            int p = at + 1;
            while (p < size && p < at + 13 && bytes[p] >= 'a' && bytes[p] <= 'z') {
                p++;
            }
            boolean closed = p < size && bytes[p] == '\'';
            type = closed ? LETTERS : BAD;
            next = p + 1;
        }

        int lettersSize() {
            return next - at - 2;
        }

        /** The NAME that is all there is, or 0. */
        long onlyName() {
            rewind();
            if (type != NAME) {
                return 0;
            }
            long only = name;
            advance();
            return type == END ? only : 0;
        }
    }

    /** NAMES in the order of their coming. */
    private static final class Names {
        final long[] name;
        int size;

        Names(int room) {
            name = new long[room];
        }

        int find(long wanted) {
            for (int i = 0; i < size; i++) {
                if (name[i] == wanted) {
                    return i;
                }
            }
            return MISSING;
        }

        boolean isFull() {
            return size >= name.length;
        }

        void put(long wanted) {
            if (size < name.length) {
                name[size++] = wanted;
            }
        }
    }

    /** What all TONGUES share. Everything only ever grows at its end, so that old sizes bring an old state back. */
    private static final class Store {
        // 512 calls bring 10240 bytes at most, and no byte of a tape is kept twice.
        static final int POOL_ROOM = 12000;
        static final int TONGUE_MARKS = 7;
        static final int MEAN_MARKS = TONGUE_MARKS + MOST_TONGUES * Tongue.MARKS;

        final Names kinds = new Names(MOST_KINDS);
        final Names funs = new Names(MOST_FUNS);
        final Names things = new Names(MOST_THINGS);
        final Names tongueNames = new Names(MOST_TONGUES);
        final Tongue[] tongues = new Tongue[MOST_TONGUES];
        int current = MISSING;
        final int[] funKind = new int[MOST_FUNS];
        final int[] funArity = new int[MOST_FUNS];
        final int[] funArgs = new int[MOST_FUNS * MOST_ARGS];
        final int[] funCost = new int[MOST_FUNS];
        final int[] meanSize = new int[MOST_FUNS];
        final int[] meanOp = new int[MOST_FUNS * TERM_ROOM];
        final long[] meanName = new long[MOST_FUNS * TERM_ROOM];
        int factCount;
        final long[] factName = new long[MOST_FACTS];
        final int[] factThings = new int[MOST_FACTS * 2];
        final byte[] pool = new byte[POOL_ROOM];
        int poolSize;
        boolean isFull;
        private final int[] marks = new int[MEAN_MARKS + MOST_FUNS];
        private final int[] stack = new int[TREE_ROOM];

        void mark() {
            isFull = false;
            marks[0] = kinds.size;
            marks[1] = funs.size;
            marks[2] = things.size;
            marks[3] = tongueNames.size;
            marks[4] = factCount;
            marks[5] = poolSize;
            marks[6] = current;
            for (int i = 0; i < tongueNames.size; i++) {
                tongues[i].saveSizes(marks, TONGUE_MARKS + i * Tongue.MARKS);
            }
            System.arraycopy(meanSize, 0, marks, MEAN_MARKS, MOST_FUNS);
        }

        void restore() {
            kinds.size = marks[0];
            funs.size = marks[1];
            things.size = marks[2];
            tongueNames.size = marks[3];
            factCount = marks[4];
            poolSize = marks[5];
            current = marks[6];
            for (int i = 0; i < tongueNames.size; i++) {
                tongues[i].loadSizes(marks, TONGUE_MARKS + i * Tongue.MARKS);
            }
            System.arraycopy(marks, MEAN_MARKS, meanSize, 0, MOST_FUNS);
        }

        void keepByte(int b) {
            if (poolSize < POOL_ROOM) {
                pool[poolSize++] = (byte) b;
            } else {
                isFull = true;
            }
        }

        void makeTongue(long name) {
            int i = tongueNames.size;
            if (i >= MOST_TONGUES) {
                return;
            }
            // A tongue of a module that was wrong is used again.
            if (tongues[i] == null) {
                tongues[i] = new Tongue(pool);
            }
            tongues[i].forgetAll();
            tongueNames.put(name);
        }

        int findFact(long name, int a, int b) {
            for (int i = 0; i < factCount; i++) {
                if (factName[i] == name && factThings[2 * i] == a && factThings[2 * i + 1] == b) {
                    return i;
                }
            }
            return MISSING;
        }

        int sizeOf(int what) {
            switch (what) {
                case 0:
                    return tongueNames.size;
                case 1:
                    return kinds.size;
                case 2:
                    return funs.size;
                case 3:
                    return things.size;
                default:
                    return factCount;
            }
        }

        /** For each FUN of a TREE where its arguments begin. */
        void findChildren(int[] tree, int size, int[] child) {
            int open = 0;
            for (int i = size - 1; i >= 0; i--) {
                int arity = funArity[tree[i]];
                for (int k = 0; k < arity && open > 0; k++) {
                    child[i * MOST_ARGS + k] = stack[--open];
                }
                stack[open++] = i;
            }
        }

        void writeTree(int[] tree, int size, Text to) {
            int open = 0;
            for (int i = 0; i < size; i++) {
                to.putName(funs.name[tree[i]]);
                if (funArity[tree[i]] > 0) {
                    to.put('(');
                    stack[open++] = funArity[tree[i]];
                    continue;
                }
                while (open > 0 && stack[open - 1] == 1) {
                    to.put(')');
                    open--;
                }
                if (open > 0) {
                    to.put(',');
                    stack[open - 1]--;
                }
            }
        }
    }

    /** A LIN: how a TONGUE says a FUN with arguments. A slot is an argument's place among the ITEMS that are arguments. */
    private static final class Lin {
        int number;
        int fun;
        int rank;
        int cost;
        int size;
        final int[] arg = new int[MOST_ITEMS];
        final int[] from = new int[MOST_ITEMS];
        final int[] length = new int[MOST_ITEMS];
        int slots;
        final int[] slotArg = new int[MOST_ARGS];
        final int[] slotNeed = new int[MOST_ARGS];
        final int[] slotOf = new int[MOST_ARGS];
        int agrees;
        final int[] agree = new int[MOST_SAID * 3];
        int gives;
        final int[] give = new int[MOST_SAID * 3];

        /** The VALUES with those of a need, or -1 if it does not fit. */
        static int fit(int values, int need) {
            for (int shift = 0; shift <= TOP_SHIFT && need >> shift != 0; shift += VALUE_BITS) {
                int wanted = need >> shift & VALUE_MASK;
                int own = values >> shift & VALUE_MASK;
                if (wanted != 0 && own != 0 && own != wanted) {
                    return -1;
                }
            }
            return values | need;
        }

        /** Whether an agree that ends at this slot can hold no more: a VALUE that is there is never changed. */
        boolean clashes(int[] values, int slot) {
            for (int i = 0; i < agrees; i++) {
                int a = agree[3 * i];
                int b = agree[3 * i + 1];
                if (Math.max(a, b) == slot) {
                    int one = values[a] >> agree[3 * i + 2] & VALUE_MASK;
                    int two = values[b] >> agree[3 * i + 2] & VALUE_MASK;
                    if (one != 0 && two != 0 && one != two) {
                        return true;
                    }
                }
            }
            return false;
        }

        /** The VALUES of the whole, or -1 if the arguments do not agree. */
        int unite(int[] values, int[] work) {
            for (int i = 0; i < slots; i++) {
                work[i] = values[i];
            }
            for (int i = 0; i < agrees; i++) {
                int a = agree[3 * i];
                int b = agree[3 * i + 1];
                int shift = agree[3 * i + 2];
                int one = work[a] >> shift & VALUE_MASK;
                int two = work[b] >> shift & VALUE_MASK;
                if (one != 0 && two != 0 && one != two) {
                    return -1;
                }
                work[a] |= two << shift;
                work[b] |= one << shift;
            }
            int whole = 0;
            for (int i = 0; i < gives; i++) {
                int slot = give[3 * i];
                int shift = give[3 * i + 1];
                int value = slot < 0 ? give[3 * i + 2] : work[slot] >> shift & VALUE_MASK;
                whole = whole & ~(VALUE_MASK << shift) | value << shift;
            }
            return whole;
        }
    }

    /** What is of one TONGUE. */
    private static final class Tongue {
        static final int MARKS = 7;
        static final int SOUND_ROW = 25;
        static final int SOUND_LEFT = 7;
        static final int SOUND_RIGHT = 16;
        static final int LETTERS = 0;
        static final int CLASS = 1;
        static final int BORDER = 2;
        static final int CELL_ROW = 3;
        static final int WORD_ROW = 11;
        static final int WORD_STEMS = 5;

        final Names features = new Names(MOST_FEATURES);
        final Names values = new Names(MOST_FEATURES * MOST_VALUES);
        final int[] valueFeature = new int[MOST_FEATURES * MOST_VALUES];
        final int[] valueRank = new int[MOST_FEATURES * MOST_VALUES];
        final Names classes = new Names(MOST_CLASSES);
        final int[] classMask = new int[MOST_CLASSES];
        int soundCount;
        // A row: what LHS is (what, from or class, length), RHS (from, length), how many C left and right, then each C as LHS.
        final int[] sound = new int[MOST_SOUNDS * SOUND_ROW];
        final Names patterns = new Names(MOST_PATTERNS);
        final int[] cellCount = new int[MOST_PATTERNS];
        // A row: VALUES, where the FORM begins, its length (-1 for one that lacks).
        final int[] cell = new int[MOST_PATTERNS * MOST_CELLS * CELL_ROW];
        int wordCount;
        // A row: FUN, PATTERN, VALUES, cost, how many stems, then where each begins and its length.
        final int[] word = new int[MOST_WORDS * WORD_ROW];
        int linCount;
        final Lin[] lins = new Lin[MOST_FUNS * MOST_LINS];
        final Forms forms;

        Tongue(byte[] pool) {
            forms = new Forms(pool);
        }

        void forgetAll() {
            features.size = 0;
            values.size = 0;
            classes.size = 0;
            soundCount = 0;
            patterns.size = 0;
            wordCount = 0;
            linCount = 0;
        }

        void saveSizes(int[] to, int at) {
            to[at] = features.size;
            to[at + 1] = values.size;
            to[at + 2] = classes.size;
            to[at + 3] = soundCount;
            to[at + 4] = patterns.size;
            to[at + 5] = wordCount;
            to[at + 6] = linCount;
        }

        void loadSizes(int[] from, int at) {
            features.size = from[at];
            values.size = from[at + 1];
            classes.size = from[at + 2];
            soundCount = from[at + 3];
            patterns.size = from[at + 4];
            wordCount = from[at + 5];
            linCount = from[at + 6];
        }

        int sizeOf(int what) {
            switch (what) {
                case 8:
                    return features.size;
                case 9:
                    return values.size;
                case 10:
                    return classes.size;
                case 11:
                    return soundCount;
                case 12:
                    return patterns.size;
                case 13:
                    return wordCount;
                default:
                    return linCount;
            }
        }

        Names namesOf(int what) {
            switch (what) {
                case 3:
                    return features;
                case 4:
                    return values;
                default:
                    return patterns;
            }
        }

        static int shiftOf(int feature) {
            return TOP_SHIFT - feature * VALUE_BITS;
        }

        int wordFun(int w) {
            return word[w * WORD_ROW];
        }

        int wordPattern(int w) {
            return word[w * WORD_ROW + 1];
        }

        int wordCost(int w) {
            return word[w * WORD_ROW + 3];
        }

        int cellsOf(int w) {
            return cellCount[wordPattern(w)];
        }

        /** The VALUES of a form: those of the WORD where the CELL says nothing. */
        int formValues(int id) {
            int w = id / MOST_CELLS;
            int all = cell[(wordPattern(w) * MOST_CELLS + id % MOST_CELLS) * CELL_ROW];
            int own = word[w * WORD_ROW + 2];
            for (int shift = 0; shift <= TOP_SHIFT; shift += VALUE_BITS) {
                if ((all >> shift & VALUE_MASK) == 0) {
                    all |= own & VALUE_MASK << shift;
                }
            }
            return all;
        }

        int linsOf(int fun) {
            int n = 0;
            for (int i = 0; i < linCount; i++) {
                if (lins[i].fun == fun) {
                    n++;
                }
            }
            return n;
        }
    }

    /** The forms of a TONGUE, kept until it has more WORDS or SOUND RULES. A form's number is that of its WORD and its CELL. */
    private static final class Forms {
        static final int HEADS = 512;

        final byte[] pool;
        final byte[] text = new byte[MOST_WORDS * MOST_CELLS * MOST_LETTERS];
        final int[] size = new int[MOST_WORDS * MOST_CELLS];
        final int[] chain = new int[MOST_WORDS * MOST_CELLS];
        final int[] head = new int[HEADS];
        final int[] found = new int[MOST_WORDS * MOST_CELLS];
        byte[] from = new byte[MOST_LETTERS];
        byte[] to = new byte[MOST_LETTERS];
        int builtWords;
        int builtSounds;

        Forms(byte[] pool) {
            this.pool = pool;
            Arrays.fill(head, MISSING);
        }

        void build(Tongue t) {
            if (builtWords == t.wordCount && builtSounds == t.soundCount) {
                return;
            }
            builtWords = t.wordCount;
            builtSounds = t.soundCount;
            Arrays.fill(head, MISSING);
            // Backwards, so that each chain goes forwards.
            for (int w = t.wordCount - 1; w >= 0; w--) {
                for (int c = t.cellsOf(w) - 1; c >= 0; c--) {
                    int id = w * MOST_CELLS + c;
                    int n = join(t, w, c);
                    size[id] = n > 0 ? soundAll(t, n) : MISSING;
                    if (size[id] > 0) {
                        System.arraycopy(from, 0, text, id * MOST_LETTERS, size[id]);
                        int h = hash(from, 0, size[id]);
                        chain[id] = head[h];
                        head[h] = id;
                    }
                }
            }
        }

        private static int hash(byte[] b, int at, int n) {
            int h = 0;
            for (int i = at; i < at + n; i++) {
                h = h * 31 + b[i];
            }
            return (h ^ h >> 9) & HEADS - 1;
        }

        /** The forms that are this word come to found, by number: how many. */
        int findSame(byte[] b, int at, int n) {
            int count = 0;
            int id = head[hash(b, at, n)];
            for (int guard = 0; guard < found.length && id >= 0; guard++) {
                if (size[id] == n && endsWith(id, b, at, n)) {
                    found[count++] = id;
                }
                id = chain[id];
            }
            return count;
        }

        boolean isForm(int id, byte[] b, int at, int n) {
            return size[id] == n && endsWith(id, b, at, n);
        }

        boolean endsWith(int id, byte[] b, int at, int n) {
            if (size[id] < n) {
                return false;
            }
            int p = id * MOST_LETTERS + size[id] - n;
            for (int i = 0; i < n; i++) {
                if (text[p + i] != b[at + i]) {
                    return false;
                }
            }
            return true;
        }

        /** The PARTS of a CELL with the stems of a WORD: how many letters, or -1. */
        private int join(Tongue t, int w, int c) {
            int row = (t.wordPattern(w) * MOST_CELLS + c) * Tongue.CELL_ROW;
            int stems = w * Tongue.WORD_ROW + Tongue.WORD_STEMS;
            int begin = t.cell[row + 1];
            int end = begin + t.cell[row + 2];
            int n = 0;
            for (int i = begin; i < end; i++) {
                int part = pool[i];
                int p = i;
                int length = 1;
                if (part <= 3) {
                    if (part > t.word[stems - 1]) {
                        return -1;
                    }
                    p = t.word[stems + 2 * part - 2];
                    length = t.word[stems + 2 * part - 1];
                }
                if (n + length > MOST_LETTERS) {
                    return -1;
                }
                System.arraycopy(pool, p, from, n, length);
                n += length;
            }
            return end < begin ? -1 : n;
        }

        int soundWord(Tongue t, Text word) {
            System.arraycopy(word.bytes, 0, from, 0, word.size);
            return soundAll(t, word.size);
        }

        /** All SOUND RULES over the letters in from: how many are there then, or -1 if it lacks. */
        private int soundAll(Tongue t, int letters) {
            int n = letters;
            for (int r = 0; r < t.soundCount && n > 0; r++) {
                n = soundOnce(t, r * Tongue.SOUND_ROW, n);
                byte[] old = from;
                from = to;
                to = old;
            }
            return n > 0 ? n : -1;
        }

        private int soundOnce(Tongue t, int row, int n) {
            int length = t.sound[row] == Tongue.CLASS ? 1 : t.sound[row + 2];
            int made = 0;
            int p = 0;
            while (p < n) {
                boolean hit = fitsAt(t, row, from, p, n) == p + length
                        && leftFits(t, row, made) && rightFits(t, row, p + length, n);
                int more = hit ? t.sound[row + 4] : 1;
                if (made + more > MOST_LETTERS) {
                    return -1;
                }
                if (hit) {
                    System.arraycopy(pool, t.sound[row + 3], to, made, more);
                } else {
                    to[made] = from[p];
                }
                made += more;
                p += hit && length > 0 ? length : 1;
            }
            return made;
        }

        /** Where the letters end that a C (or LHS) has from p on, or -1. */
        private int fitsAt(Tongue t, int c, byte[] letters, int p, int n) {
            if (t.sound[c] == Tongue.BORDER) {
                return p == n ? p : -1;
            }
            if (t.sound[c] == Tongue.CLASS) {
                return p >= 0 && p < n && (t.classMask[t.sound[c + 1]] >> letters[p] - 'a' & 1) == 1 ? p + 1 : -1;
            }
            int length = t.sound[c + 2];
            if (p < 0 || p + length > n) {
                return -1;
            }
            for (int i = 0; i < length; i++) {
                if (letters[p + i] != pool[t.sound[c + 1] + i]) {
                    return -1;
                }
            }
            return p + length;
        }

        private boolean leftFits(Tongue t, int row, int made) {
            int p = made;
            for (int i = t.sound[row + 5] - 1; i >= 0; i--) {
                int c = row + Tongue.SOUND_LEFT + 3 * i;
                if (t.sound[c] == Tongue.BORDER) {
                    if (p != 0) {
                        return false;
                    }
                } else {
                    int length = t.sound[c] == Tongue.CLASS ? 1 : t.sound[c + 2];
                    p -= length;
                    if (p < 0 || fitsAt(t, c, to, p, made) != p + length) {
                        return false;
                    }
                }
            }
            return true;
        }

        private boolean rightFits(Tongue t, int row, int begin, int n) {
            int p = begin;
            for (int i = 0; i < t.sound[row + 6]; i++) {
                p = fitsAt(t, row + Tongue.SOUND_RIGHT + 3 * i, from, p, n);
                if (p < 0) {
                    return false;
                }
            }
            return true;
        }
    }

    /** Reads THE TAPE: its STATEMENTS into the store, or a TREE. A method that answers false has told the wrong TOKEN. */
    private static final class Reader {
        private static final long TONGUE = 0x746F6E677565L;
        private static final long KIND = 0x6B696E64L;
        private static final long FUN = 0x66756EL;
        private static final long FEATURE = 0x66656174757265L;
        private static final long LETTERS = 0x6C657474657273L;
        private static final long SOUND = 0x736F756E64L;
        private static final long PATTERN = 0x7061747465726EL;
        private static final long WORD = 0x776F7264L;
        private static final long LIN = 0x6C696EL;
        private static final long MEAN = 0x6D65616EL;
        private static final long THING = 0x7468696E67L;
        private static final long FACT = 0x66616374L;
        private static final long OF = 0x6F66L;
        private static final long HAS = 0x686173L;
        private static final long COST = 0x636F7374L;
        private static final long AGREE = 0x6167726565L;
        private static final long GIVE = 0x67697665L;

        private static final int CANT_STAND = 1;
        private static final int TOO_MANY = 2;
        private static final int NO_TONGUE = 3;
        private static final int IS_THERE = 4;
        private static final int NONE_SUCH = 5;
        private static final int BAD_LIN = 6;
        private static final int TERM_DEPTH = 40;

        private final Store store;
        private final Text tape;
        private Tongue tongue;
        int rule;
        int where;
        private int first;
        private int values;
        private int cost;
        private int cells;
        private final int[] cell = new int[MOST_CELLS * Tongue.CELL_ROW];
        private final int[] row = new int[Tongue.SOUND_ROW];
        private final long[] names = new long[MOST_VALUES];
        private int termSize;
        private final int[] termOp = new int[TERM_ROOM];
        private final long[] termName = new long[TERM_ROOM];
        private int binders;
        private final long[] binder = new long[TERM_DEPTH + 1];
        private final int[] opened = new int[TREE_ROOM];
        private final int[] seen = new int[TREE_ROOM];

        Reader(Store store, Text tape) {
            this.store = store;
            this.tape = tape;
        }

        void begin() {
            rule = 0;
            store.mark();
            tape.rewind();
        }

        boolean readStatement() {
            first = tape.at;
            if (tape.type != Text.NAME) {
                return wrong(CANT_STAND, first);
            }
            long word = tape.name;
            tape.advance();
            if (word == TONGUE) {
                return readTongue();
            }
            if (word == KIND) {
                return readNewName(store.kinds);
            }
            if (word == FUN) {
                return readFun();
            }
            if (word == MEAN) {
                return readMean();
            }
            if (word == THING) {
                return readNewName(store.things);
            }
            if (word == FACT) {
                return readFact();
            }
            boolean ofSounds = word == FEATURE || word == LETTERS || word == SOUND;
            if (!ofSounds && word != PATTERN && word != WORD && word != LIN) {
                return wrong(CANT_STAND, first);
            }
            tongue = store.current >= 0 ? store.tongues[store.current] : null;
            if (tongue == null) {
                return wrong(NO_TONGUE, first);
            }
            if (word == FEATURE) {
                return readFeature();
            }
            if (word == LETTERS) {
                return readClass();
            }
            if (word == SOUND) {
                return readSound();
            }
            if (word == PATTERN) {
                return readPattern();
            }
            return word == WORD ? readWord() : readLin();
        }

        private boolean wrong(int broken, int at) {
            rule = broken;
            where = at;
            return false;
        }

        private boolean take(int type) {
            if (tape.type != type) {
                return wrong(CANT_STAND, tape.at);
            }
            tape.advance();
            return true;
        }

        private boolean need(int type) {
            return tape.type == type || wrong(CANT_STAND, tape.at);
        }

        private boolean isWord(long word) {
            return tape.type == Text.NAME && tape.name == word;
        }

        /** Whether a NAME is at hand that is not among these yet. */
        private boolean needNew(Names among) {
            return need(Text.NAME) && (among.find(tape.name) < 0 || wrong(IS_THERE, tape.at));
        }

        /** Whether a NAME is at hand that is among these. */
        private boolean needKnown(Names among) {
            return need(Text.NAME) && (among.find(tape.name) >= 0 || wrong(NONE_SUCH, tape.at));
        }

        /** The end of a STATEMENT, and whether there is room for what it brings. */
        private boolean closes(boolean tooMany) {
            if (!take(';')) {
                return false;
            }
            return !tooMany && !store.isFull || wrong(TOO_MANY, first);
        }

        private boolean readCost() {
            cost = 0;
            if (!isWord(COST)) {
                return true;
            }
            tape.advance();
            if (!need(Text.NUMBER)) {
                return false;
            }
            if (tape.value > MOST_COST) {
                return wrong(NONE_SUCH, tape.at);
            }
            cost = tape.value;
            tape.advance();
            return true;
        }

        /** All NAMES at hand are VALUES, no two of one FEATURE; behind the first one the word cost may stand, where it may at all. */
        private boolean readValues(boolean costMayStand) {
            values = 0;
            for (int i = 0; i <= MOST_FEATURES && tape.type == Text.NAME; i++) {
                if (costMayStand && i > 0 && tape.name == COST) {
                    return true;
                }
                int v = tongue.values.find(tape.name);
                int shift = v < 0 ? 0 : Tongue.shiftOf(tongue.valueFeature[v]);
                if (v < 0 || (values >> shift & VALUE_MASK) != 0) {
                    return wrong(NONE_SUCH, tape.at);
                }
                values |= tongue.valueRank[v] << shift;
                tape.advance();
            }
            return true;
        }

        /** The LETTERS at hand come to the pool: where they begin. */
        private int keepLetters() {
            int begin = store.poolSize;
            int n = tape.lettersSize();
            for (int i = 1; i <= n; i++) {
                store.keepByte(tape.bytes[tape.at + i]);
            }
            return begin;
        }

        private boolean readTongue() {
            if (!need(Text.NAME)) {
                return false;
            }
            long name = tape.name;
            int known = store.tongueNames.find(name);
            tape.advance();
            if (!closes(known < 0 && store.tongueNames.isFull())) {
                return false;
            }
            if (known < 0) {
                known = store.tongueNames.size;
                store.makeTongue(name);
            }
            store.current = known;
            return true;
        }

        /** A KIND or a THING: nothing but a NAME that is not there yet. */
        private boolean readNewName(Names among) {
            if (!needNew(among)) {
                return false;
            }
            long name = tape.name;
            tape.advance();
            if (!closes(among.isFull())) {
                return false;
            }
            among.put(name);
            return true;
        }

        private boolean readFun() {
            if (!needNew(store.funs)) {
                return false;
            }
            long name = tape.name;
            tape.advance();
            if (!take(':')) {
                return false;
            }
            int arity = 0;
            int[] args = row;
            for (int i = 0; i <= MOST_ARGS && tape.type == Text.NAME; i++) {
                if (arity == MOST_ARGS) {
                    return wrong(NONE_SUCH, tape.at);
                }
                if (!needKnown(store.kinds)) {
                    return false;
                }
                args[arity++] = store.kinds.find(tape.name);
                tape.advance();
            }
            if (!take('>') || !needKnown(store.kinds)) {
                return false;
            }
            int kind = store.kinds.find(tape.name);
            tape.advance();
            if (!readCost() || !closes(store.funs.isFull())) {
                return false;
            }
            int fun = store.funs.size;
            store.funs.put(name);
            store.funKind[fun] = kind;
            store.funArity[fun] = arity;
            store.funCost[fun] = cost;
            System.arraycopy(args, 0, store.funArgs, fun * MOST_ARGS, arity);
            return true;
        }

        private boolean readFact() {
            if (!need(Text.NAME)) {
                return false;
            }
            long name = tape.name;
            tape.advance();
            if (!needKnown(store.things)) {
                return false;
            }
            int one = store.things.find(tape.name);
            int two = MISSING;
            tape.advance();
            if (tape.type == Text.NAME) {
                if (!needKnown(store.things)) {
                    return false;
                }
                two = store.things.find(tape.name);
                tape.advance();
            }
            boolean fresh = store.findFact(name, one, two) < 0;
            if (!closes(fresh && store.factCount >= MOST_FACTS)) {
                return false;
            }
            if (fresh) {
                store.factName[store.factCount] = name;
                store.factThings[2 * store.factCount] = one;
                store.factThings[2 * store.factCount + 1] = two;
                store.factCount++;
            }
            return true;
        }

        private boolean readFeature() {
            if (!needNew(tongue.features)) {
                return false;
            }
            long name = tape.name;
            tape.advance();
            if (!take('=') || !need(Text.NAME)) {
                return false;
            }
            int only = tape.at;
            int n = 0;
            for (int v = 0; v <= MOST_VALUES && tape.type == Text.NAME; v++) {
                if (n == MOST_VALUES) {
                    return wrong(NONE_SUCH, tape.at);
                }
                if (!needNew(tongue.values)) {
                    return false;
                }
                for (int i = 0; i < n; i++) {
                    if (names[i] == tape.name) {
                        return wrong(IS_THERE, tape.at);
                    }
                }
                names[n++] = tape.name;
                tape.advance();
            }
            // Only the ; tells that the VALUE was just one: another TOKEN that can't stand here is wrong itself.
            if (n == 1 && tape.type == ';') {
                return wrong(NONE_SUCH, only);
            }
            if (!closes(tongue.features.isFull())) {
                return false;
            }
            for (int i = 0; i < n; i++) {
                tongue.valueFeature[tongue.values.size] = tongue.features.size;
                tongue.valueRank[tongue.values.size] = i + 1;
                tongue.values.put(names[i]);
            }
            tongue.features.put(name);
            return true;
        }

        private boolean readClass() {
            if (!needNew(tongue.classes)) {
                return false;
            }
            long name = tape.name;
            tape.advance();
            if (!take('=') || !need(Text.LETTERS)) {
                return false;
            }
            int mask = 0;
            for (int i = 1; i <= tape.lettersSize(); i++) {
                mask |= 1 << tape.bytes[tape.at + i] - 'a';
            }
            tape.advance();
            if (!closes(tongue.classes.isFull())) {
                return false;
            }
            tongue.classMask[tongue.classes.size] = mask;
            tongue.classes.put(name);
            return true;
        }

        private boolean readSound() {
            Arrays.fill(row, 0);
            if (tape.type != Text.NAME && !need(Text.LETTERS)) {
                return false;
            }
            if (tape.type == Text.LETTERS && (tape.lettersSize() < 1 || tape.lettersSize() > 3)) {
                return wrong(NONE_SUCH, tape.at);
            }
            if (!readContext(0) || !take('>') || !need(Text.LETTERS)) {
                return false;
            }
            row[3] = keepLetters();
            row[4] = tape.lettersSize();
            tape.advance();
            if (tape.type == '/') {
                tape.advance();
                if (!readSide(5, Tongue.SOUND_LEFT) || !take('_') || !readSide(6, Tongue.SOUND_RIGHT)) {
                    return false;
                }
            }
            if (!closes(tongue.soundCount >= MOST_SOUNDS)) {
                return false;
            }
            System.arraycopy(row, 0, tongue.sound, tongue.soundCount * Tongue.SOUND_ROW, Tongue.SOUND_ROW);
            tongue.soundCount++;
            return true;
        }

        private boolean readSide(int counter, int begin) {
            for (int i = 0; i <= 3 && (tape.type == Text.NAME || tape.type == Text.LETTERS || tape.type == '#'); i++) {
                if (row[counter] == 3) {
                    return wrong(NONE_SUCH, tape.at);
                }
                if (!readContext(begin + 3 * row[counter])) {
                    return false;
                }
                row[counter]++;
            }
            return true;
        }

        private boolean readContext(int c) {
            if (tape.type == '#') {
                row[c] = Tongue.BORDER;
            } else if (tape.type == Text.LETTERS) {
                row[c] = Tongue.LETTERS;
                row[c + 1] = keepLetters();
                row[c + 2] = tape.lettersSize();
            } else if (needKnown(tongue.classes)) {
                row[c] = Tongue.CLASS;
                row[c + 1] = tongue.classes.find(tape.name);
            } else {
                return false;
            }
            tape.advance();
            return true;
        }

        private boolean readPattern() {
            if (!needNew(tongue.patterns)) {
                return false;
            }
            long name = tape.name;
            tape.advance();
            cells = 0;
            if (isWord(OF) && !readParent()) {
                return false;
            }
            if (!take('{')) {
                return false;
            }
            boolean tooMany = false;
            boolean more = true;
            for (int i = 0; i < Text.ROOM && more; i++) {
                if (!readCell()) {
                    return false;
                }
                tooMany = tooMany || !placeCell();
                more = tape.type == ',';
                if (more) {
                    tape.advance();
                }
            }
            if (!take('}') || !closes(tooMany || tongue.patterns.isFull())) {
                return false;
            }
            int p = tongue.patterns.size;
            tongue.patterns.put(name);
            tongue.cellCount[p] = cells;
            System.arraycopy(cell, 0, tongue.cell, p * MOST_CELLS * Tongue.CELL_ROW, cells * Tongue.CELL_ROW);
            return true;
        }

        private boolean readParent() {
            tape.advance();
            if (!needKnown(tongue.patterns)) {
                return false;
            }
            int p = tongue.patterns.find(tape.name);
            cells = tongue.cellCount[p];
            System.arraycopy(tongue.cell, p * MOST_CELLS * Tongue.CELL_ROW, cell, 0, cells * Tongue.CELL_ROW);
            tape.advance();
            return true;
        }

        /** A CELL of a PATTERN; its FORM is kept as bytes, a stem as its number, which no letter is. */
        private boolean readCell() {
            if (!readValues(false) || !take('=')) {
                return false;
            }
            row[0] = values;
            row[1] = store.poolSize;
            row[2] = -1;
            if (tape.type == '-') {
                tape.advance();
                return true;
            }
            boolean more = true;
            for (int i = 0; i < Text.ROOM && more; i++) {
                if (!readPart()) {
                    return false;
                }
                more = tape.type == '+';
                if (more) {
                    tape.advance();
                }
            }
            row[2] = store.poolSize - row[1];
            return true;
        }

        private boolean readPart() {
            if (tape.type == Text.LETTERS) {
                keepLetters();
            } else if (!need(Text.NUMBER)) {
                return false;
            } else if (tape.value < 1 || tape.value > 3) {
                return wrong(NONE_SUCH, tape.at);
            } else {
                store.keepByte(tape.value);
            }
            tape.advance();
            return true;
        }

        private boolean placeCell() {
            int at = 0;
            while (at < cells && cell[at * Tongue.CELL_ROW] != row[0]) {
                at++;
            }
            if (at >= MOST_CELLS) {
                return false;
            }
            System.arraycopy(row, 0, cell, at * Tongue.CELL_ROW, Tongue.CELL_ROW);
            cells = Math.max(cells, at + 1);
            return true;
        }

        private boolean readWord() {
            if (!needKnown(store.funs)) {
                return false;
            }
            int fun = store.funs.find(tape.name);
            if (store.funArity[fun] > 0) {
                return wrong(NONE_SUCH, tape.at);
            }
            tape.advance();
            if (!needKnown(tongue.patterns)) {
                return false;
            }
            Arrays.fill(row, 0);
            row[0] = fun;
            row[1] = tongue.patterns.find(tape.name);
            tape.advance();
            if (!need(Text.LETTERS) || !readStems() || !readHas() || !readCost()) {
                return false;
            }
            row[2] = values;
            row[3] = cost;
            if (!closes(tongue.wordCount >= MOST_WORDS)) {
                return false;
            }
            System.arraycopy(row, 0, tongue.word, tongue.wordCount * Tongue.WORD_ROW, Tongue.WORD_ROW);
            tongue.wordCount++;
            return true;
        }

        private boolean readStems() {
            int n = 0;
            while (n < 3 && tape.type == Text.LETTERS) {
                row[Tongue.WORD_STEMS + 2 * n] = keepLetters();
                row[Tongue.WORD_STEMS + 2 * n + 1] = tape.lettersSize();
                tape.advance();
                n++;
            }
            row[Tongue.WORD_STEMS - 1] = n;
            return n > 0;
        }

        private boolean readHas() {
            values = 0;
            if (!isWord(HAS)) {
                return true;
            }
            tape.advance();
            return need(Text.NAME) && readValues(true);
        }

        private boolean readLin() {
            if (!needKnown(store.funs)) {
                return false;
            }
            int funAt = tape.at;
            Lin lin = new Lin();
            lin.fun = store.funs.find(tape.name);
            Arrays.fill(lin.slotOf, MISSING);
            if (store.funArity[lin.fun] == 0) {
                return wrong(NONE_SUCH, tape.at);
            }
            tape.advance();
            if (!take('=')) {
                return false;
            }
            int itemAt = tape.at;
            if (!readItems(lin) || !readSaids(lin) || !readCost() || !take(';')) {
                return false;
            }
            lin.cost = cost;
            if (lin.size == 1 && lin.slots == 1
                    && store.funArgs[lin.fun * MOST_ARGS + lin.arg[0]] >= store.funKind[lin.fun]) {
                return wrong(BAD_LIN, itemAt);
            }
            if (lin.slots < store.funArity[lin.fun]) {
                return wrong(BAD_LIN, funAt);
            }
            lin.rank = tongue.linsOf(lin.fun);
            if (store.isFull || lin.rank >= MOST_LINS || tongue.linCount >= tongue.lins.length) {
                return wrong(TOO_MANY, first);
            }
            lin.number = tongue.linCount;
            tongue.lins[tongue.linCount++] = lin;
            return true;
        }

        private boolean readItems(Lin lin) {
            if (tape.type != Text.LETTERS && !need(Text.NUMBER)) {
                return false;
            }
            for (int i = 0; i <= MOST_ITEMS && (tape.type == Text.LETTERS || tape.type == Text.NUMBER); i++) {
                if (lin.size == MOST_ITEMS) {
                    return wrong(NONE_SUCH, tape.at);
                }
                if (tape.type == Text.NUMBER) {
                    if (!readArgument(lin)) {
                        return false;
                    }
                } else if (tape.lettersSize() < 1) {
                    return wrong(NONE_SUCH, tape.at);
                } else {
                    lin.arg[lin.size] = MISSING;
                    lin.from[lin.size] = keepLetters();
                    lin.length[lin.size] = tape.lettersSize();
                    tape.advance();
                }
                lin.size++;
            }
            return true;
        }

        private boolean readArgument(Lin lin) {
            int a = tape.value - 1;
            if (a < 0 || a >= store.funArity[lin.fun] || lin.slotOf[a] >= 0) {
                return wrong(NONE_SUCH, tape.at);
            }
            tape.advance();
            values = 0;
            if (tape.type == '[') {
                tape.advance();
                if (!need(Text.NAME) || !readValues(false) || !take(']')) {
                    return false;
                }
            }
            lin.arg[lin.size] = a;
            lin.slotOf[a] = lin.slots;
            lin.slotArg[lin.slots] = a;
            lin.slotNeed[lin.slots] = values;
            lin.slots++;
            return true;
        }

        private boolean readSaids(Lin lin) {
            for (int i = 0; i <= MOST_SAID && tape.type == ','; i++) {
                tape.advance();
                boolean agrees = isWord(AGREE);
                if (!agrees && !isWord(GIVE)) {
                    return wrong(CANT_STAND, tape.at);
                }
                if (lin.agrees + lin.gives == MOST_SAID) {
                    return wrong(NONE_SUCH, tape.at);
                }
                tape.advance();
                if (!(agrees ? readAgree(lin) : readGive(lin))) {
                    return false;
                }
            }
            return true;
        }

        private boolean readAgree(Lin lin) {
            int at = 3 * lin.agrees;
            for (int i = 0; i < 2; i++) {
                if (!needArgument(lin)) {
                    return false;
                }
                lin.agree[at + i] = lin.slotOf[tape.value - 1];
                tape.advance();
            }
            if (!needKnown(tongue.features)) {
                return false;
            }
            lin.agree[at + 2] = Tongue.shiftOf(tongue.features.find(tape.name));
            tape.advance();
            lin.agrees++;
            return true;
        }

        private boolean readGive(Lin lin) {
            int at = 3 * lin.gives;
            if (tape.type == Text.NUMBER) {
                if (!needArgument(lin)) {
                    return false;
                }
                lin.give[at] = lin.slotOf[tape.value - 1];
                tape.advance();
                if (!needKnown(tongue.features)) {
                    return false;
                }
                lin.give[at + 1] = Tongue.shiftOf(tongue.features.find(tape.name));
            } else {
                if (!needKnown(tongue.values)) {
                    return false;
                }
                int v = tongue.values.find(tape.name);
                lin.give[at] = MISSING;
                lin.give[at + 1] = Tongue.shiftOf(tongue.valueFeature[v]);
                lin.give[at + 2] = tongue.valueRank[v];
            }
            tape.advance();
            lin.gives++;
            return true;
        }

        private boolean needArgument(Lin lin) {
            if (!need(Text.NUMBER)) {
                return false;
            }
            int a = tape.value - 1;
            return a >= 0 && a < MOST_ARGS && lin.slotOf[a] >= 0 || wrong(NONE_SUCH, tape.at);
        }

        private boolean readMean() {
            if (!needKnown(store.funs)) {
                return false;
            }
            int fun = store.funs.find(tape.name);
            if (store.meanSize[fun] > 0) {
                return wrong(IS_THERE, tape.at);
            }
            tape.advance();
            termSize = 0;
            binders = 0;
            if (!take('=') || !readTerm(fun, 1) || !closes(termSize > TERM_ROOM)) {
                return false;
            }
            store.meanSize[fun] = termSize;
            System.arraycopy(termOp, 0, store.meanOp, fun * TERM_ROOM, termSize);
            System.arraycopy(termName, 0, store.meanName, fun * TERM_ROOM, termSize);
            return true;
        }

        // Each level of the three that call one another has its depth, and readTerm refuses what is too deep.
        private boolean readTerm(int fun, int depth) {
            int type = tape.type;
            if (type != '\\' && type != '(' && type != Text.NAME && type != Text.NUMBER) {
                return wrong(CANT_STAND, tape.at);
            }
            if (depth > TERM_DEPTH) {
                return wrong(NONE_SUCH, tape.at);
            }
            if (type == '\\') {
                return readBinder(fun, depth);
            }
            int begin = termSize;
            if (!readAtom(fun, depth)) {
                return false;
            }
            boolean inside = false;
            for (int i = 0; i < Text.ROOM && (inside || tape.type == '('); i++) {
                tape.advance();
                putNode(begin, Thought.APPLY, 0);
                if (!readTerm(fun, depth + 1)) {
                    return false;
                }
                inside = tape.type == ',';
                if (!inside && !take(')')) {
                    return false;
                }
            }
            return true;
        }

        private boolean readBinder(int fun, int depth) {
            tape.advance();
            if (!need(Text.NAME)) {
                return false;
            }
            binder[binders++] = tape.name;
            putNode(termSize, Thought.BIND, 0);
            tape.advance();
            if (!take('.') || !readTerm(fun, depth + 1)) {
                return false;
            }
            binders--;
            return true;
        }

        private boolean readAtom(int fun, int depth) {
            if (tape.type == '(') {
                tape.advance();
                return readTerm(fun, depth + 1) && take(')');
            }
            if (tape.type == Text.NUMBER) {
                if (tape.value < 1 || tape.value > store.funArity[fun]) {
                    return wrong(NONE_SUCH, tape.at);
                }
                putNode(termSize, Thought.ARGUMENT - tape.value + 1, 0);
            } else {
                int around = 0;
                while (around < binders && binder[binders - 1 - around] != tape.name) {
                    around++;
                }
                if (around < binders) {
                    putNode(termSize, around, 0);
                } else {
                    putNode(termSize, Thought.NAME, tape.name);
                }
            }
            tape.advance();
            return true;
        }

        /** A node comes to the TERM, before what stands from at on; one too many is counted alone. */
        private void putNode(int at, int op, long name) {
            if (termSize < TERM_ROOM) {
                for (int i = termSize; i > at; i--) {
                    termOp[i] = termOp[i - 1];
                    termName[i] = termName[i - 1];
                }
                termOp[at] = op;
                termName[at] = name;
            }
            termSize++;
        }

        /** The TREE on the tape: its FUNS, or -1 minus the byte of the wrong TOKEN. */
        int readTree(int[] into) {
            tape.rewind();
            int size = 0;
            int depth = 0;
            while (size < TREE_ROOM && tape.type == Text.NAME) {
                int fun = store.funs.find(tape.name);
                if (fun < 0 || depth > 0 && store.funKind[fun] != kindWanted(depth - 1)) {
                    return -1 - tape.at;
                }
                into[size++] = fun;
                tape.advance();
                if (store.funArity[fun] > 0) {
                    if (tape.type != '(') {
                        return -1 - tape.at;
                    }
                    opened[depth] = fun;
                    seen[depth] = 0;
                    depth++;
                    tape.advance();
                    continue;
                }
                depth = closeArguments(depth);
                if (depth <= 0) {
                    return depth == 0 && tape.type == Text.END ? size : -1 - tape.at;
                }
            }
            return -1 - tape.at;
        }

        private int kindWanted(int open) {
            return store.funArgs[opened[open] * MOST_ARGS + seen[open]];
        }

        /** What comes behind a whole argument: how many FUNS are open then, or -1 if the TOKEN at hand is wrong. */
        private int closeArguments(int depth) {
            int open = depth;
            while (open > 0) {
                seen[open - 1]++;
                boolean more = seen[open - 1] < store.funArity[opened[open - 1]];
                if (tape.type != (more ? ',' : ')')) {
                    return -1;
                }
                tape.advance();
                if (more) {
                    return open;
                }
                open--;
            }
            return 0;
        }
    }

    /** All PHRASES of a sentence: NODES and their WAYS, shorter ones first, lesser KINDS first. */
    private static final class Chart {
        static final int MOST_NODES = 3000;
        static final int MOST_WAYS = 9000;
        static final int MOST_TRIES = 400000;

        private final Store store;
        // Where the NODES of a KIND over some words begin, and how many there are.
        final int[] firstNode = new int[MOST_SENTENCE * MOST_SENTENCE * MOST_KINDS];
        final int[] nodeCount = new int[MOST_SENTENCE * MOST_SENTENCE * MOST_KINDS];
        int nodes;
        final int[] nodeEnd = new int[MOST_NODES];
        final int[] nodeValues = new int[MOST_NODES];
        int ways;
        final int[] wayNode = new int[MOST_WAYS];
        // The number of a form, or -1 minus that of a LIN.
        final int[] wayRule = new int[MOST_WAYS];
        final int[] wayArgs = new int[MOST_WAYS * MOST_ARGS];
        int root;
        private int tries;
        private boolean over;
        private Tongue tongue;
        private Text text;
        private final int[] kindLins = new int[MOST_KINDS + 1];
        private final int[] linOrder = new int[MOST_FUNS * MOST_LINS];
        private int spanFirst;
        private int spanEnd;
        private final int[] chosen = new int[MOST_ARGS];
        private final int[] chosenValues = new int[MOST_ARGS];
        private final int[] work = new int[MOST_ARGS];

        Chart(Store store) {
            this.store = store;
        }

        void forget() {
            nodes = 0;
            ways = 0;
        }

        void forgetTries() {
            tries = 0;
        }

        /**
         * 1 if there is a NODE of the KIND over all words, 0 if not, -1 if there is too much of something; TRIES of earlier
         * sentences count until they are forgotten.
         */
        int fill(Tongue t, Text sentence, int kind) {
            tongue = t;
            text = sentence;
            over = false;
            forget();
            orderLins();
            int n = sentence.words;
            for (int size = 1; size <= n && !over; size++) {
                for (int at = 0; at + size <= n && !over; at++) {
                    int found = size == 1 ? t.forms.findSame(sentence.bytes, sentence.start[at], sentence.len[at]) : 0;
                    for (int k = 0; k < store.kinds.size && !over; k++) {
                        fillSpan(at, size, k, found);
                    }
                }
            }
            if (over) {
                forget();
                return -1;
            }
            root = spanAt(0, n, kind);
            return nodeCount[root] > 0 ? 1 : 0;
        }

        private static int spanAt(int at, int size, int kind) {
            return (at * MOST_SENTENCE + size - 1) * MOST_KINDS + kind;
        }

        private void orderLins() {
            int n = 0;
            for (int k = 0; k < store.kinds.size; k++) {
                kindLins[k] = n;
                for (int i = 0; i < tongue.linCount; i++) {
                    if (store.funKind[tongue.lins[i].fun] == k) {
                        linOrder[n++] = i;
                    }
                }
            }
            kindLins[store.kinds.size] = n;
        }

        private void fillSpan(int at, int size, int kind, int found) {
            spanFirst = nodes;
            spanEnd = at + size;
            layForms(kind, found);
            for (int i = kindLins[kind]; i < kindLins[kind + 1] && !over; i++) {
                Lin lin = tongue.lins[linOrder[i]];
                if (lin.size <= size) {
                    lay(lin, 0, at, 0);
                }
            }
            int span = spanAt(at, size, kind);
            firstNode[span] = spanFirst;
            nodeCount[span] = nodes - spanFirst;
        }

        private void layForms(int kind, int found) {
            for (int i = 0; i < found && !over; i++) {
                int id = tongue.forms.found[i];
                if (store.funKind[tongue.wordFun(id / MOST_CELLS)] == kind) {
                    putWay(id, tongue.formValues(id), 0);
                }
            }
        }

        // Goes as deep as a LIN has ITEMS.
        private void lay(Lin lin, int item, int at, int slot) {
            if (item >= lin.size) {
                int values = lin.unite(chosenValues, work);
                if (values >= 0) {
                    putWay(-1 - lin.number, values, slot);
                }
                return;
            }
            int rest = lin.size - item - 1;
            if (lin.arg[item] < 0) {
                boolean room = rest == 0 ? at + 1 == spanEnd : at + 1 + rest <= spanEnd;
                if (room && isAt(at, lin.from[item], lin.length[item])) {
                    lay(lin, item + 1, at + 1, slot);
                }
                return;
            }
            int kind = store.funArgs[lin.fun * MOST_ARGS + lin.arg[item]];
            for (int to = rest == 0 ? spanEnd : at + 1; to <= spanEnd - rest && !over; to++) {
                int span = spanAt(at, to - at, kind);
                for (int i = firstNode[span]; i < firstNode[span] + nodeCount[span] && !over; i++) {
                    tries++;
                    over = over || tries > MOST_TRIES;
                    int values = Lin.fit(nodeValues[i], lin.slotNeed[slot]);
                    if (values >= 0 && !over) {
                        chosen[slot] = i;
                        chosenValues[slot] = values;
                        lay(lin, item + 1, to, slot + 1);
                    }
                }
            }
        }

        private boolean isAt(int at, int from, int length) {
            if (text.len[at] != length) {
                return false;
            }
            for (int i = 0; i < length; i++) {
                if (text.bytes[text.start[at] + i] != store.pool[from + i]) {
                    return false;
                }
            }
            return true;
        }

        private void putWay(int rule, int values, int args) {
            int node = spanFirst;
            while (node < nodes && nodeValues[node] != values) {
                node++;
            }
            if (node >= MOST_NODES || ways >= MOST_WAYS) {
                over = true;
                return;
            }
            if (node == nodes) {
                nodeEnd[node] = spanEnd;
                nodeValues[node] = values;
                nodes++;
            }
            wayNode[ways] = node;
            wayRule[ways] = rule;
            System.arraycopy(chosen, 0, wayArgs, ways * MOST_ARGS, args);
            ways++;
        }
    }

    /** THE FOREST: the TREES of the NODES over all words, counted and ranked without barred FUNS. */
    private static final class Ranking {
        static final long MOST_TREES = 1000000000000000000L;

        private final Store store;
        private final Chart chart;
        private Tongue tongue;
        private boolean isOpen;
        private boolean ranked;
        private final boolean[] barred = new boolean[MOST_FUNS];
        private final long[] treeCount = new long[Chart.MOST_NODES];
        private final boolean[] reached = new boolean[Chart.MOST_NODES];
        private int orderSize;
        private int[] order = new int[Chart.MOST_WAYS];
        private int[] spare = new int[Chart.MOST_WAYS];
        // The best of each NODE: what they cost, by which WAY, and the ranks of its arguments, four bits each.
        private final int[] listSize = new int[Chart.MOST_NODES];
        private final int[] listPrice = new int[Chart.MOST_NODES * MOST_READINGS];
        private final int[] listWay = new int[Chart.MOST_NODES * MOST_READINGS];
        private final int[] listRanks = new int[Chart.MOST_NODES * MOST_READINGS];
        private int topSize;
        private final int[] topPrice = new int[MOST_READINGS];
        private final int[] topEntry = new int[MOST_READINGS];
        private final int[] stack = new int[TREE_ROOM * MOST_ARGS + MOST_ARGS];

        Ranking(Store store, Chart chart) {
            this.store = store;
            this.chart = chart;
        }

        void close() {
            isOpen = false;
            ranked = false;
            topSize = 0;
        }

        void open(Tongue t) {
            tongue = t;
            isOpen = true;
            ranked = false;
            for (int i = 0; i < MOST_FUNS; i++) {
                barred[i] = false;
            }
        }

        void setBarred(int fun, boolean on) {
            if (isOpen) {
                barred[fun] = on;
                ranked = false;
            }
        }

        private int funOf(int way) {
            int rule = chart.wayRule[way];
            return rule >= 0 ? tongue.wordFun(rule / MOST_CELLS) : tongue.lins[-1 - rule].fun;
        }

        private int slotsOf(int way) {
            int rule = chart.wayRule[way];
            return rule >= 0 ? 0 : tongue.lins[-1 - rule].slots;
        }

        private int ownPrice(int way) {
            int rule = chart.wayRule[way];
            int own = rule >= 0 ? tongue.wordCost(rule / MOST_CELLS) : tongue.lins[-1 - rule].cost;
            return own + store.funCost[funOf(way)];
        }

        /** How many TREES there are. WAYS come behind all those of their arguments, so that one pass will do. */
        long total() {
            if (!isOpen) {
                return 0;
            }
            for (int i = 0; i < chart.nodes; i++) {
                treeCount[i] = 0;
            }
            for (int way = 0; way < chart.ways; way++) {
                if (!barred[funOf(way)]) {
                    long product = 1;
                    for (int i = 0; i < slotsOf(way); i++) {
                        product = times(product, treeCount[chart.wayArgs[way * MOST_ARGS + i]]);
                    }
                    int node = chart.wayNode[way];
                    treeCount[node] = Math.min(MOST_TREES, treeCount[node] + product);
                }
            }
            long all = 0;
            int first = chart.firstNode[chart.root];
            for (int i = first; i < first + chart.nodeCount[chart.root]; i++) {
                all = Math.min(MOST_TREES, all + treeCount[i]);
            }
            return all;
        }

        private static long times(long a, long b) {
            if (a == 0 || b == 0) {
                return 0;
            }
            return a > MOST_TREES / b ? MOST_TREES : a * b;
        }

        int priceOf(int i) {
            rank();
            return i >= 0 && i < topSize ? topPrice[i] : MISSING;
        }

        /** The FUNS of a READING, each before its arguments: how many, -1 without one, -2 if there are too many. */
        int spell(int i, int[] into) {
            rank();
            if (i < 0 || i >= topSize) {
                return MISSING;
            }
            int n = 0;
            int open = 0;
            stack[open++] = topEntry[i];
            while (open > 0 && n < TREE_ROOM) {
                int entry = stack[--open];
                int way = listWay[entry];
                into[n++] = funOf(way);
                int rule = chart.wayRule[way];
                for (int a = slotsOf(way) - 1; a >= 0; a--) {
                    int slot = tongue.lins[-1 - rule].slotOf[a];
                    int node = chart.wayArgs[way * MOST_ARGS + slot];
                    stack[open++] = node * MOST_READINGS + (listRanks[entry] >> 4 * slot & 15);
                }
            }
            return open > 0 ? -2 : n;
        }

        private void rank() {
            if (!isOpen || ranked) {
                return;
            }
            ranked = true;
            reach();
            sortWays();
            for (int i = 0; i < orderSize; i++) {
                int way = order[i];
                choose(way, 0, 1, ownPrice(way), 0);
            }
            topSize = 0;
            int first = chart.firstNode[chart.root];
            for (int i = first; i < first + chart.nodeCount[chart.root]; i++) {
                for (int r = 0; r < listSize[i]; r++) {
                    putTop(i * MOST_READINGS + r);
                }
            }
        }

        /** Only WAYS that a TREE of the whole can have come to the order. */
        private void reach() {
            for (int i = 0; i < chart.nodes; i++) {
                reached[i] = false;
                listSize[i] = 0;
            }
            int first = chart.firstNode[chart.root];
            for (int i = first; i < first + chart.nodeCount[chart.root]; i++) {
                reached[i] = true;
            }
            orderSize = 0;
            for (int way = chart.ways - 1; way >= 0; way--) {
                if (reached[chart.wayNode[way]] && !barred[funOf(way)]) {
                    order[orderSize++] = way;
                    for (int i = 0; i < slotsOf(way); i++) {
                        reached[chart.wayArgs[way * MOST_ARGS + i]] = true;
                    }
                }
            }
        }

        private void sortWays() {
            for (int width = 1; width < orderSize; width *= 2) {
                for (int begin = 0; begin < orderSize; begin += 2 * width) {
                    merge(begin, Math.min(begin + width, orderSize), Math.min(begin + 2 * width, orderSize));
                }
                int[] old = order;
                order = spare;
                spare = old;
            }
        }

        private void merge(int begin, int middle, int end) {
            int a = begin;
            int b = middle;
            for (int i = begin; i < end; i++) {
                boolean second = a >= middle || b < end && compare(order[b], order[a]) < 0;
                spare[i] = second ? order[b++] : order[a++];
            }
        }

        private int compare(int a, int b) {
            int ruleA = chart.wayRule[a];
            int ruleB = chart.wayRule[b];
            if (chart.wayNode[a] != chart.wayNode[b]) {
                return chart.wayNode[a] - chart.wayNode[b];
            }
            if (ruleA >= 0 && ruleB >= 0) {
                return ruleA - ruleB;
            }
            if (ruleA >= 0 || ruleB >= 0) {
                return ruleA >= 0 ? -1 : 1;
            }
            Lin linA = tongue.lins[-1 - ruleA];
            Lin linB = tongue.lins[-1 - ruleB];
            if (linA != linB) {
                return linA.fun != linB.fun ? linA.fun - linB.fun : linA.rank - linB.rank;
            }
            return compareArguments(a * MOST_ARGS, b * MOST_ARGS, linA.slots);
        }

        private int compareArguments(int a, int b, int slots) {
            for (int i = 0; i < slots; i++) {
                int d = chart.nodeEnd[chart.wayArgs[a + i]] - chart.nodeEnd[chart.wayArgs[b + i]];
                if (d != 0) {
                    return d;
                }
            }
            for (int i = 0; i < slots; i++) {
                int d = chart.nodeValues[chart.wayArgs[a + i]] - chart.nodeValues[chart.wayArgs[b + i]];
                if (d != 0) {
                    return d;
                }
            }
            return 0;
        }

        // One with ranks r, s .. has (r+1)(s+1).. - 1 of the same WAY ahead of it: more than 16 are of no use.
        private void choose(int way, int slot, int ahead, int cost, int ranks) {
            if (slot >= slotsOf(way)) {
                putList(way, cost, ranks);
                return;
            }
            int node = chart.wayArgs[way * MOST_ARGS + slot];
            for (int r = 0; r < listSize[node] && ahead * (r + 1) <= MOST_READINGS; r++) {
                int price = listPrice[node * MOST_READINGS + r];
                choose(way, slot + 1, ahead * (r + 1), cost + price, ranks | r << 4 * slot);
            }
        }

        /** WAYS and ranks come in their order, so that one of the same price goes behind. */
        private void putList(int way, int cost, int ranks) {
            int node = chart.wayNode[way];
            int begin = node * MOST_READINGS;
            int at = begin + listSize[node];
            while (at > begin && listPrice[at - 1] > cost) {
                at--;
            }
            if (at >= begin + MOST_READINGS) {
                return;
            }
            if (listSize[node] < MOST_READINGS) {
                listSize[node]++;
            }
            for (int i = begin + listSize[node] - 1; i > at; i--) {
                listPrice[i] = listPrice[i - 1];
                listWay[i] = listWay[i - 1];
                listRanks[i] = listRanks[i - 1];
            }
            listPrice[at] = cost;
            listWay[at] = way;
            listRanks[at] = ranks;
        }

        private void putTop(int entry) {
            int at = topSize;
            while (at > 0 && comesBefore(entry, topEntry[at - 1])) {
                at--;
            }
            if (at >= MOST_READINGS) {
                return;
            }
            if (topSize < MOST_READINGS) {
                topSize++;
            }
            for (int i = topSize - 1; i > at; i--) {
                topPrice[i] = topPrice[i - 1];
                topEntry[i] = topEntry[i - 1];
            }
            topPrice[at] = listPrice[entry];
            topEntry[at] = entry;
        }

        private boolean comesBefore(int a, int b) {
            if (listPrice[a] != listPrice[b]) {
                return listPrice[a] < listPrice[b];
            }
            // Those of one NODE come in their order already.
            return chart.nodeValues[a / MOST_READINGS] < chart.nodeValues[b / MOST_READINGS];
        }
    }

    /** The OPTIONS of a TREE in a TONGUE. They hold how they are made; texts are written when they are wanted. */
    private static final class Sayer {
        private final Store store;
        private Tongue tongue;
        private final int[] child = new int[TREE_ROOM * MOST_ARGS];
        private final int[] options = new int[TREE_ROOM];
        private final int[] cost = new int[TREE_ROOM * MOST_OPTIONS];
        private final int[] values = new int[TREE_ROOM * MOST_OPTIONS];
        private final int[] length = new int[TREE_ROOM * MOST_OPTIONS];
        // As in Chart: the number of a form, or -1 minus that of a LIN; then which OPTIONS its arguments have, five bits each.
        private final int[] rule = new int[TREE_ROOM * MOST_OPTIONS];
        private final int[] picks = new int[TREE_ROOM * MOST_OPTIONS];
        private int at;
        private final int[] picked = new int[MOST_ARGS];
        private final int[] work = new int[MOST_ARGS];
        private final int[] openEntry = new int[TREE_ROOM];
        private final int[] openItem = new int[TREE_ROOM];

        Sayer(Store store) {
            this.store = store;
        }

        /** How many OPTIONS the whole TREE has. */
        int findOptions(Tongue t, int[] funs, int size) {
            tongue = t;
            store.findChildren(funs, size, child);
            for (at = size - 1; at >= 0; at--) {
                options[at] = 0;
                if (store.funArity[funs[at]] == 0) {
                    pickWords(funs[at]);
                } else {
                    pickLins(funs[at]);
                }
            }
            return options[0];
        }

        private void pickWords(int fun) {
            for (int w = 0; w < tongue.wordCount; w++) {
                if (tongue.wordFun(w) != fun) {
                    continue;
                }
                for (int c = 0; c < tongue.cellsOf(w); c++) {
                    int id = w * MOST_CELLS + c;
                    int size = tongue.forms.size[id];
                    if (size > 0) {
                        putOption(id, tongue.wordCost(w) + store.funCost[fun], tongue.formValues(id), size, 0);
                    }
                }
            }
        }

        private void pickLins(int fun) {
            for (int n = 0; n < tongue.linCount; n++) {
                Lin lin = tongue.lins[n];
                if (lin.fun == fun) {
                    int size = lin.size - 1;
                    for (int i = 0; i < lin.size; i++) {
                        size += lin.arg[i] < 0 ? lin.length[i] : 0;
                    }
                    pick(lin, 0, lin.cost + store.funCost[fun], size, 0);
                }
            }
        }

        // Goes as deep as a FUN has arguments. What is too dear or too long already only gets more so.
        private void pick(Lin lin, int slot, int price, int size, int chosen) {
            boolean tooDear = options[at] == MOST_OPTIONS && price >= cost[at * MOST_OPTIONS + MOST_OPTIONS - 1];
            if (tooDear || size > MOST_SAID_BYTES) {
                return;
            }
            if (slot >= lin.slots) {
                int whole = lin.unite(picked, work);
                if (whole >= 0) {
                    putOption(-1 - lin.number, price, whole, size, chosen);
                }
                return;
            }
            int kid = child[at * MOST_ARGS + lin.slotArg[slot]];
            for (int r = 0; r < options[kid]; r++) {
                int entry = kid * MOST_OPTIONS + r;
                picked[slot] = Lin.fit(values[entry], lin.slotNeed[slot]);
                if (picked[slot] >= 0 && !lin.clashes(picked, slot)) {
                    pick(lin, slot + 1, price + cost[entry], size + length[entry], chosen | r << 5 * slot);
                }
            }
        }

        private void putOption(int made, int price, int all, int size, int chosen) {
            int begin = at * MOST_OPTIONS;
            int place = begin + options[at];
            while (place > begin && cost[place - 1] > price) {
                place--;
            }
            if (place >= begin + MOST_OPTIONS) {
                return;
            }
            if (options[at] < MOST_OPTIONS) {
                options[at]++;
            }
            for (int i = begin + options[at] - 1; i > place; i--) {
                cost[i] = cost[i - 1];
                values[i] = values[i - 1];
                length[i] = length[i - 1];
                rule[i] = rule[i - 1];
                picks[i] = picks[i - 1];
            }
            cost[place] = price;
            values[place] = all;
            length[place] = size;
            rule[place] = made;
            picks[place] = chosen;
        }

        /** The text of an OPTION of the whole, to a text that is empty. */
        void write(int option, Text to) {
            int open = 1;
            openEntry[0] = option;
            openItem[0] = 0;
            // Each ITEM of each FUN is come to once, and its end.
            for (int step = 0; step < TREE_ROOM * (MOST_ITEMS + 2) && open > 0; step++) {
                int entry = openEntry[open - 1];
                int item = openItem[open - 1]++;
                if (rule[entry] >= 0) {
                    to.putSpaced(tongue.forms.text, rule[entry] * MOST_LETTERS, length[entry]);
                    open--;
                    continue;
                }
                Lin lin = tongue.lins[-1 - rule[entry]];
                if (item >= lin.size) {
                    open--;
                } else if (lin.arg[item] < 0) {
                    to.putSpaced(store.pool, lin.from[item], lin.length[item]);
                } else {
                    int slot = lin.slotOf[lin.arg[item]];
                    int kid = child[entry / MOST_OPTIONS * MOST_ARGS + lin.arg[item]];
                    openEntry[open] = kid * MOST_OPTIONS + (picks[entry] >> 5 * slot & 31);
                    openItem[open] = 0;
                    open++;
                }
            }
        }
    }

    /**
     * The TERM of a TREE, reduced, told and judged. A TERM is a row of nodes, each before its parts, so that nothing here calls
     * itself: a variable is the number of binders between it and its own, the other nodes are below 0.
     */
    private static final class Thought {
        static final int APPLY = -1;
        static final int BIND = -2;
        static final int NAME = -3;
        static final int ARGUMENT = -4;

        private static final int MOST_NODES = 300;
        private static final int MOST_STEPS = 400;
        private static final int MOST_LOOKS = 20000;
        private static final int LAST_STEP = 2000000;

        private static final long AND = 0x616E64L;
        private static final long OR = 0x6F72L;
        private static final long IF = 0x6966L;
        private static final long NOT = 0x6E6F74L;
        private static final long ALL = 0x616C6CL;
        private static final long SOME = 0x736F6D65L;
        private static final long IS = 0x6973L;

        private final Store store;
        private int size;
        private int[] op = new int[MOST_NODES];
        private long[] name = new long[MOST_NODES];
        private int[] nextOp = new int[MOST_NODES];
        private long[] nextName = new long[MOST_NODES];
        private final int[] child = new int[TREE_ROOM * MOST_ARGS];
        private final int[] stack = new int[MOST_NODES];
        private final int[] inner = new int[MOST_NODES];
        // What is open while a formula is judged: a name, its other part, how much of it is judged, and with what outcome.
        private int open;
        private final long[] openName = new long[MOST_NODES];
        private final int[] openPart = new int[MOST_NODES];
        private final int[] openSeen = new int[MOST_NODES];
        private final int[] openValue = new int[MOST_NODES];
        private final int[] openLevel = new int[MOST_NODES];
        private final int[] thing = new int[MOST_NODES + 1];
        private int at;
        private int level;
        private boolean astray;

        Thought(Store store) {
            this.store = store;
        }

        /** The reduced meaning of a TREE comes here: 0, or -1, or -2. */
        int ponder(int[] tree, int funs) {
            for (int i = 0; i < funs; i++) {
                if (store.meanSize[tree[i]] == 0) {
                    return -2;
                }
            }
            return putTogether(tree, funs) && reduce() ? 0 : -1;
        }

        private boolean putTogether(int[] tree, int funs) {
            store.findChildren(tree, funs, child);
            size = 0;
            int depth = 1;
            stack[0] = 0;
            inner[0] = 0;
            for (int step = 0; step < LAST_STEP && depth > 0; step++) {
                int place = stack[depth - 1];
                int fun = tree[place];
                int i = inner[depth - 1]++;
                if (i >= store.meanSize[fun]) {
                    depth--;
                    continue;
                }
                int node = store.meanOp[fun * TERM_ROOM + i];
                if (node <= ARGUMENT) {
                    stack[depth] = child[place * MOST_ARGS + ARGUMENT - node];
                    inner[depth] = 0;
                    depth++;
                } else if (size == MOST_NODES) {
                    return false;
                } else {
                    op[size] = node;
                    name[size++] = store.meanName[fun * TERM_ROOM + i];
                }
            }
            return depth == 0;
        }

        private boolean reduce() {
            for (int done = 0; done <= MOST_STEPS; done++) {
                int redex = 0;
                // The first one in the row is the outermost leftmost one.
                while (redex + 1 < size && (op[redex] != APPLY || op[redex + 1] != BIND)) {
                    redex++;
                }
                if (redex + 1 >= size) {
                    return true;
                }
                if (done == MOST_STEPS || !contract(redex)) {
                    return false;
                }
            }
            return false;
        }

        private int endOf(int from) {
            int open = 1;
            int p = from;
            while (p < size && open > 0) {
                if (op[p] == APPLY) {
                    open++;
                } else if (op[p] != BIND) {
                    open--;
                }
                p++;
            }
            return p;
        }

        private boolean contract(int redex) {
            int bodyEnd = endOf(redex + 2);
            int argEnd = endOf(bodyEnd);
            System.arraycopy(op, 0, nextOp, 0, redex);
            System.arraycopy(name, 0, nextName, 0, redex);
            int made = redex;
            int depth = 0;
            int waiting = 0;
            for (int i = redex + 2; i < bodyEnd; i++) {
                int node = op[i];
                if (node == depth) {
                    made = paste(bodyEnd, argEnd, depth, made);
                } else if (made < MOST_NODES) {
                    nextOp[made] = node > depth ? node - 1 : node;
                    nextName[made++] = name[i];
                } else {
                    return false;
                }
                if (made < 0) {
                    return false;
                }
                if (node == APPLY) {
                    stack[waiting++] = depth;
                } else if (node == BIND) {
                    depth++;
                } else if (waiting > 0) {
                    depth = stack[--waiting];
                }
            }
            return takeRest(argEnd, made);
        }

        private boolean takeRest(int from, int made) {
            int rest = size - from;
            if (made + rest > MOST_NODES) {
                return false;
            }
            System.arraycopy(op, from, nextOp, made, rest);
            System.arraycopy(name, from, nextName, made, rest);
            size = made + rest;
            int[] oldOp = op;
            op = nextOp;
            nextOp = oldOp;
            long[] oldName = name;
            name = nextName;
            nextName = oldName;
            return true;
        }

        /** The argument comes under more binders; its variables that are bound outside of it must see past them. */
        private int paste(int from, int to, int deeper, int begin) {
            if (begin + to - from > MOST_NODES) {
                return -1;
            }
            int made = begin;
            int depth = 0;
            int waiting = 0;
            for (int i = from; i < to; i++) {
                int node = op[i];
                nextOp[made] = node >= depth ? node + deeper : node;
                nextName[made++] = name[i];
                if (node == APPLY) {
                    inner[waiting++] = depth;
                } else if (node == BIND) {
                    depth++;
                } else if (waiting > 0) {
                    depth = inner[--waiting];
                }
            }
            return made;
        }

        void tell(Text to) {
            int depth = 0;
            int waiting = 0;
            int p = 0;
            while (p < size) {
                int applied = 0;
                while (p < size - 1 && op[p] == APPLY) {
                    applied++;
                    p++;
                }
                if (op[p] == BIND) {
                    depth++;
                    to.put('\\');
                    to.put('v');
                    to.putNumber(depth);
                    to.put('.');
                    p++;
                    continue;
                }
                tellLeaf(p, depth, to);
                p++;
                if (applied > 0) {
                    to.put('(');
                    stack[waiting] = applied;
                    inner[waiting++] = depth;
                    continue;
                }
                while (waiting > 0 && stack[waiting - 1] == 1) {
                    to.put(')');
                    waiting--;
                }
                if (waiting > 0) {
                    to.put(',');
                    stack[waiting - 1]--;
                    depth = inner[waiting - 1];
                }
            }
        }

        private void tellLeaf(int p, int depth, Text to) {
            if (op[p] == NAME) {
                to.putName(name[p]);
            } else {
                to.put('v');
                to.putNumber(depth - op[p]);
            }
        }

        /** The TRUTH of the reduced meaning: 1, 0, -1 or -3. */
        int judge() {
            int looks = 0;
            int value = -1;
            at = 0;
            level = 0;
            open = 0;
            astray = false;
            for (int step = 0; step < LAST_STEP; step++) {
                if (value >= 0) {
                    if (open == 0) {
                        return astray ? -3 : value;
                    }
                    value = goOn(value);
                } else {
                    looks++;
                    if (looks > MOST_LOOKS) {
                        return -1;
                    }
                    value = lookAt();
                }
            }
            return -1;
        }

        /** A look at the formula that stands at: its value, or -1 if a part of it must be looked at first. */
        private int lookAt() {
            int args = 0;
            while (at + args < size && op[at + args] == APPLY) {
                args++;
            }
            int head = at + args;
            if (head >= size || op[head] != NAME || args < 1 || args > 2) {
                return stray();
            }
            long word = name[head];
            int one = head + 1;
            int two = args == 2 ? endOf(one) : MISSING;
            if (word == AND || word == OR || word == IF) {
                return args == 2 ? openUp(word, one, two) : stray();
            }
            if (word == NOT) {
                return args == 1 ? openUp(word, one, two) : stray();
            }
            if (word == ALL || word == SOME) {
                return args == 1 && op[one] == BIND ? openAll(word, one + 1) : stray();
            }
            int a = thingAt(one);
            int b = args == 2 ? thingAt(two) : MISSING;
            if (a < 0 || b < 0 && (args == 2 || word == IS)) {
                return stray();
            }
            boolean holds = word == IS ? a == b : store.findFact(word, a, b) >= 0;
            return holds ? 1 : 0;
        }

        /** What is no formula has some value, so that all the others are still looked at. */
        private int stray() {
            astray = true;
            return 0;
        }

        private int thingAt(int p) {
            if (p < 0 || p >= size) {
                return MISSING;
            }
            if (op[p] == NAME) {
                return store.things.find(name[p]);
            }
            return op[p] >= 0 && op[p] < level ? thing[level - op[p]] : MISSING;
        }

        private int openUp(long word, int one, int two) {
            openName[open] = word;
            openPart[open] = two;
            openSeen[open] = 0;
            openLevel[open] = level;
            open++;
            at = one;
            return -1;
        }

        private int openAll(long word, int body) {
            int start = word == ALL ? 1 : 0;
            if (store.things.size == 0) {
                return start;
            }
            level++;
            thing[level] = 0;
            openUp(word, body, body);
            openValue[open - 1] = start;
            return -1;
        }

        /** A part of the innermost open formula has this value: that of the whole, or -1 if another part must be looked at. */
        private int goOn(int value) {
            int i = open - 1;
            long word = openName[i];
            openSeen[i]++;
            if (word == ALL || word == SOME) {
                openValue[i] = word == ALL ? openValue[i] & value : openValue[i] | value;
                if (openSeen[i] < store.things.size) {
                    thing[openLevel[i]] = openSeen[i];
                    level = openLevel[i];
                    at = openPart[i];
                    return -1;
                }
                open--;
                return openValue[i];
            }
            if (word != NOT && openSeen[i] == 1) {
                openValue[i] = value;
                level = openLevel[i];
                at = openPart[i];
                return -1;
            }
            open--;
            if (word == NOT) {
                return 1 - value;
            }
            if (word == AND) {
                return openValue[i] & value;
            }
            return word == OR ? openValue[i] | value : 1 - openValue[i] | value;
        }
    }

    /** What is found: ANALYSES and GUESSES of words, and HITS in THE COLLECTION. */
    private static final class Finder {
        static final int ROOM = 100;
        private static final int QUESTION_ROOM = 8;
        private static final int ENDING_ROOM = 4;

        private final Store store;
        private int analysisTongue;
        private int analyses;
        private final int[] analysed = new int[MOST_WORDS * MOST_CELLS];
        private int guesses;
        private final int[] guessPattern = new int[MOST_PATTERNS];
        private final int[] guessForms = new int[MOST_PATTERNS];
        private int guessTotal;
        private int guessEnding;
        int collected;
        private final byte[][] sentence = new byte[ROOM][];
        private final int[] sentenceTongue = new int[ROOM];
        private final Text words = new Text();
        private final int[] wordKinds = new int[MOST_SENTENCE];
        private int hits;
        private final int[] hitSentence = new int[ROOM * MOST_SENTENCE];
        private final int[] hitWord = new int[ROOM * MOST_SENTENCE];
        private int asked;
        // A row: what it is, then a KIND, or where LETTERS begin and how many there are.
        private final int[] question = new int[QUESTION_ROOM * 3];

        Finder(Store store) {
            this.store = store;
        }

        int noteAnalyses(int number, Tongue t, Text tape) {
            analyses = 0;
            if (!tape.isWord()) {
                return NO_TEXT;
            }
            analysisTongue = number;
            analyses = t.forms.findSame(tape.bytes, 0, tape.size);
            System.arraycopy(t.forms.found, 0, analysed, 0, analyses);
            return analyses;
        }

        int tellAnalysis(int i, int what) {
            if (i < 0 || i >= analyses) {
                return MISSING;
            }
            Tongue t = store.tongues[analysisTongue];
            int id = analysed[i];
            int w = id / MOST_CELLS;
            switch (what) {
                case 0:
                    return w;
                case 1:
                    return id % MOST_CELLS;
                case 2:
                    return t.wordFun(w);
                case 3:
                    return t.wordCost(w) + store.funCost[t.wordFun(w)];
                default:
                    return t.formValues(id) >> Tongue.shiftOf(what - 4) & VALUE_MASK;
            }
        }

        int noteGuesses(Tongue t, Text tape) {
            guesses = 0;
            guessTotal = 0;
            if (!tape.isWord()) {
                return NO_TEXT;
            }
            for (int n = Math.min(ENDING_ROOM, tape.size); n > 0 && guessTotal == 0; n--) {
                guessEnding = n;
                countEndings(t, tape, n);
            }
            for (int p = 0; p < t.patterns.size && guessTotal > 0; p++) {
                if (guessForms[p] > 0) {
                    guessPattern[guesses] = p;
                    guessForms[guesses] = guessForms[p];
                    guesses++;
                }
            }
            return guesses;
        }

        private void countEndings(Tongue t, Text tape, int n) {
            Arrays.fill(guessForms, 0);
            for (int w = 0; w < t.wordCount; w++) {
                for (int c = 0; c < t.cellsOf(w); c++) {
                    if (t.forms.endsWith(w * MOST_CELLS + c, tape.bytes, tape.size - n, n)) {
                        guessForms[t.wordPattern(w)]++;
                        guessTotal++;
                    }
                }
            }
        }

        int tellGuess(int i, int what) {
            if (i < 0 || i >= guesses) {
                return MISSING;
            }
            switch (what) {
                case 0:
                    return guessPattern[i];
                case 1:
                    return guessForms[i];
                case 2:
                    return guessTotal;
                default:
                    return guessEnding;
            }
        }

        boolean isFull() {
            return collected >= ROOM;
        }

        int collect(int tongue, Text tape) {
            if (collected < ROOM) {
                sentence[collected] = Arrays.copyOf(tape.bytes, tape.size);
                sentenceTongue[collected] = tongue;
                collected++;
            }
            return collected;
        }

        int search(int number, Tongue t, Text tape) {
            hits = 0;
            if (!readQuestion(tape)) {
                return NO_TEXT;
            }
            for (int i = 0; i < collected; i++) {
                if (sentenceTongue[i] == number && sentence[i] != null) {
                    words.size = 0;
                    words.putBytes(sentence[i], 0, sentence[i].length);
                    words.split();
                    searchWords(i, t, tape);
                }
            }
            return hits;
        }

        private boolean readQuestion(Text tape) {
            asked = 0;
            tape.rewind();
            for (int i = 0; i <= QUESTION_ROOM && tape.type != Text.END; i++) {
                int kind = tape.type == Text.NAME ? store.kinds.find(tape.name) : MISSING;
                boolean fits = tape.type == '*' || tape.type == Text.LETTERS || kind >= 0;
                if (!fits || asked == QUESTION_ROOM) {
                    return false;
                }
                question[3 * asked] = tape.type;
                question[3 * asked + 1] = kind >= 0 ? kind : tape.at + 1;
                question[3 * asked + 2] = tape.lettersSize();
                asked++;
                tape.advance();
            }
            return asked > 0;
        }

        private void searchWords(int number, Tongue t, Text tape) {
            for (int i = 0; i < words.words; i++) {
                wordKinds[i] = kindsOf(t, i);
            }
            for (int i = 0; i + asked <= words.words; i++) {
                boolean fits = true;
                for (int k = 0; k < asked && fits; k++) {
                    fits = fitsAt(k, i + k, tape);
                }
                if (fits && hits < hitWord.length) {
                    hitSentence[hits] = number;
                    hitWord[hits] = i;
                    hits++;
                }
            }
        }

        /** The KINDS that a word of the sentence has ANALYSES of, one bit each. */
        private int kindsOf(Tongue t, int i) {
            int kinds = 0;
            int n = t.forms.findSame(words.bytes, words.start[i], words.len[i]);
            for (int k = 0; k < n; k++) {
                kinds |= 1 << store.funKind[t.wordFun(t.forms.found[k] / MOST_CELLS)];
            }
            return kinds;
        }

        private boolean fitsAt(int k, int i, Text tape) {
            int type = question[3 * k];
            int begin = question[3 * k + 1];
            if (type == Text.NAME) {
                return (wordKinds[i] >> begin & 1) == 1;
            }
            if (type != Text.LETTERS) {
                return true;
            }
            if (words.len[i] != question[3 * k + 2]) {
                return false;
            }
            for (int p = 0; p < words.len[i]; p++) {
                if (words.bytes[words.start[i] + p] != tape.bytes[begin + p]) {
                    return false;
                }
            }
            return true;
        }

        int tellHit(int i, int what) {
            if (i < 0 || i >= hits) {
                return MISSING;
            }
            return what == 0 ? hitSentence[i] : hitWord[i];
        }
    }
}
