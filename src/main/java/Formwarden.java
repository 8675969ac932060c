import java.util.Arrays;
import java.util.NoSuchElementException;

/** A language of schemas for values that nest; ../shared/DOC.md tells what each call promises. */
public final class Formwarden {
    private static final int LABELS = 4;
    private static final int MOST_PARTS = 4;
    private static final int MOST_DEPTH = 6;
    private static final int MOST_VALUES = 200;
    private static final int MOST_SCHEMAS = 50;
    private static final int MOST_STEPS = 8;
    private static final int MOST_SAMPLES = 8;
    private static final int MOST_SIZE = 1000;
    private static final int NAMES = 6;
    private static final int ALL_PLACES = 15;
    /** Where a part can stand: at a label, or, as the last place, in a list. */
    private static final int IN_LIST = LABELS;
    private static final int PLACES = LABELS + 1;
    private static final int NONE = -1;

    /** The ways to find the smallest value, each in some turns, and in which order they are taken: short ones first. */
    private static final int TURNS = 5;
    private static final int UP = 0;
    private static final int DEPTHS = TURNS;
    private static final int SIZES = 2 * TURNS;
    private static final int ANY_SIZE = 3 * TURNS;
    private static final int THIN = 4 * TURNS;
    private static final int ALONG = 5 * TURNS;
    private static final int[] STEPS = {UP, DEPTHS, SIZES, ALONG, UP + 1, SIZES + 1, DEPTHS + 1, ALONG + 1, THIN, ANY_SIZE + 1,
        ALONG + 2, UP + 2, SIZES + 2, DEPTHS + 2, ANY_SIZE + 2, UP + 3, SIZES + 3, DEPTHS + 3, ANY_SIZE + 3,
        UP + 4, SIZES + 4, DEPTHS + 4, ANY_SIZE + 4};
    private static final int SHORT_STEPS = 10;
    /** How many rows a table may have on the way up, and how much may be spent on joining them, for one size or any. */
    private static final int[] ROWS = {512, 1 << 20, 1 << 26, 1 << 26, 1 << 26};
    private static final long[] PAIRS = {3200000, 240000000, 6000000000L, 40000000000L, 400000000000L};
    private static final long[] PAIRS_ANY = {0, 80000000, 6000000000L, 40000000000L, 600000000000L};
    private static final int MOST_ROWS_THIN = 8192;
    private static final int ROWS_OF_SIZE = 200;
    private static final long PAIRS_THIN = 80000000;
    private static final int MOST_ROWS_ALONG = 1 << 20;
    private static final long[] PAIRS_ALONG = {2000000, 100000000, 2000000000};
    /** How many clauses may be looked at on the way down. */
    private static final long[] LOOKS = {3000000, 30000000, 300000000, 3000000000L, 12000000000L};
    /** How much the turns that are not short may take in all, told in pairs of rows, and how much a look counts. */
    private static final long PATIENCE = 4000000000000L;
    private static final int PAIRS_A_LOOK = 24;
    private static final int UNKNOWN = -1;
    private static final int UNSURE = 1 << 16;

    private final Values pool = new Values();
    private final Schemas book = new Schemas();
    private final Verdicts verdicts = new Verdicts(pool, book);
    private final Schemas toldBook = new Schemas();
    private final Verdicts told = new Verdicts(pool, toldBook);
    private final int[] samples = new int[MOST_SAMPLES];
    private int sampleCount;
    private int clashes;
    /** The schemas in their plain form, and the ways to find the smallest value (see smallest). */
    private final Schemas plain = new Schemas();
    private final Logic logic = new Logic(plain);
    private final Climb climb = new Climb(plain, logic);
    private final Ways ways = new Ways(plain, logic);
    private final Prover depths = new Prover(ways, true);
    private final Prover sizes = new Prover(ways, false);
    private final int[] answers = new int[MOST_SCHEMAS * (MOST_SCHEMAS + 1)];
    private int edition = UNKNOWN;
    /** Of many hard questions the later ones get less time, so that a run comes to its end. */
    private long patience = PATIENCE;
    /** No answer is smaller than this; whether there is one, perhaps of a size that is not known; whether that is settled. */
    private int lower;
    private boolean isThere;
    private boolean isSure;

    public Formwarden() {
    }

    // ---- values

    public int value(char kind, int number) throws IllegalArgumentException, IllegalStateException {
        if (!isLeaf(kind, number)) {
            throw new IllegalArgumentException("no such kind, or the number is out of range");
        }
        clearRow();
        pool.dropDrafts();
        return kept(pool.draft(kind, kind == 'z' ? 0 : number, pool.row, 0));
    }

    public int list(int first, int second, int third, int fourth)
            throws IndexOutOfBoundsException, IllegalArgumentException, UnsupportedOperationException,
            IllegalStateException {
        if (!isPart(first) || !isPart(second) || !isPart(third) || !isPart(fourth)) {
            throw new IndexOutOfBoundsException("no such value");
        }
        pool.row[0] = first;
        pool.row[1] = second;
        pool.row[2] = third;
        pool.row[3] = fourth;
        int length = rowLength();
        if (length < 0) {
            throw new IllegalArgumentException("-1 is told ahead of a part");
        }
        pool.dropDrafts();
        int made = pool.draft('l', length, pool.row, 0);
        if (made < 0) {
            throw new UnsupportedOperationException("the list would be too deep");
        }
        return kept(made);
    }

    public int record() throws IllegalStateException {
        clearRow();
        pool.dropDrafts();
        return kept(pool.draft('o', 0, pool.row, 0));
    }

    public int with(int record, int label, int value)
            throws IndexOutOfBoundsException, IllegalArgumentException, UnsupportedOperationException,
            IllegalStateException {
        if (!pool.has(record) || !isPart(value) || !isLabel(label)) {
            throw new IndexOutOfBoundsException("no such value or label");
        }
        if (!pool.isRecord(record)) {
            throw new IllegalArgumentException("it is no record");
        }
        pool.dropDrafts();
        int made = pool.labelled(record, label, value);
        if (made < 0) {
            throw new UnsupportedOperationException("the record would be too deep");
        }
        return kept(made);
    }

    public int values() {
        return pool.count;
    }

    public char kindOf(int value) throws IndexOutOfBoundsException {
        needValue(value);
        return pool.kinds[value];
    }

    public int numberOf(int value) throws IndexOutOfBoundsException {
        needValue(value);
        return pool.numbers[value];
    }

    public int part(int value, int index) throws IndexOutOfBoundsException, NoSuchElementException {
        needValue(value);
        int found = pool.at(value, index);
        if (found < 0) {
            throw new NoSuchElementException("it has no such part");
        }
        return found;
    }

    public int size(int value) throws IndexOutOfBoundsException {
        needValue(value);
        return pool.sizes[value];
    }

    // ---- schemas

    public int schema(char kind, int a, int b, int c)
            throws IllegalArgumentException, IndexOutOfBoundsException, IllegalStateException {
        if (!Schemas.isKind(kind) || !Schemas.isInRange(kind, a, b, c)) {
            throw new IllegalArgumentException("no such kind, or a number is out of range");
        }
        if (!book.hasParts(kind, a, b)) {
            throw new IndexOutOfBoundsException("no such schema as a part");
        }
        int made = book.add(kind, a, b, c);
        if (made < 0) {
            throw new IllegalStateException("there are 50 schemas");
        }
        return made;
    }

    public boolean field(int schema, int label, int item, boolean must)
            throws IndexOutOfBoundsException, IllegalArgumentException {
        if (!book.has(schema) || !isLabel(label) || (item != NONE && !book.has(item))) {
            throw new IndexOutOfBoundsException("no such schema or label");
        }
        if (book.kinds[schema] != 'o' || item >= schema) {
            throw new IllegalArgumentException("it is no record schema, or the schema has no lower number");
        }
        return book.tell(schema, label, item, must) >= 0;
    }

    public int bind(int name, int schema) throws IndexOutOfBoundsException, UnsupportedOperationException {
        if (name < 0 || name >= NAMES || !book.has(schema)) {
            throw new IndexOutOfBoundsException("no such name or schema");
        }
        if (book.leadsTo(schema, name)) {
            throw new UnsupportedOperationException("the name would come back to itself");
        }
        return book.rebind(name, schema);
    }

    public int schemas() {
        return book.count;
    }

    public boolean isOf(int value, int schema) throws IndexOutOfBoundsException {
        needValue(value);
        needSchema(schema);
        return verdicts.belongs(value, schema);
    }

    public int faults(int value, int schema) throws IndexOutOfBoundsException {
        needValue(value);
        needSchema(schema);
        toldBook.become(book);
        told.remember(value, schema);
        return (int) Math.min(told.remembered, Integer.MAX_VALUE);
    }

    public char faultAt(int index) throws IndexOutOfBoundsException {
        seekFault(index);
        return told.letter;
    }

    public int pathAt(int index) throws IndexOutOfBoundsException {
        seekFault(index);
        return told.path;
    }

    public boolean isEmpty(int schema) throws IndexOutOfBoundsException {
        needSchema(schema);
        return smallest(schema, NONE) == 0;
    }

    public boolean isWithin(int schema, int other) throws IndexOutOfBoundsException {
        needSchema(schema);
        needSchema(other);
        return smallest(schema, other) == 0;
    }

    public int gap(int schema, int other) throws IndexOutOfBoundsException, NoSuchElementException {
        needSchema(schema);
        needSchema(other);
        int found = smallest(schema, other);
        if (found == 0) {
            throw new NoSuchElementException("the schema is within the other one");
        }
        return found;
    }

    public int least(int schema) throws IndexOutOfBoundsException, NoSuchElementException {
        needSchema(schema);
        int found = smallest(schema, NONE);
        if (found == 0) {
            throw new NoSuchElementException("the schema has no values");
        }
        return found;
    }

    // ---- views, merging, samples

    public int step(char kind, int a, int b)
            throws IllegalArgumentException, IndexOutOfBoundsException, IllegalStateException {
        if (!isLabel(a) || !Values.takes(kind, a, b)) {
            throw new IllegalArgumentException("no such kind, label or symbol, or both labels are the same");
        }
        if (kind == 'a') {
            needValue(b);
        }
        int steps = pool.addStep(kind, a, b);
        if (steps < 0) {
            throw new IllegalStateException("there are 8 steps");
        }
        return steps;
    }

    public int clearSteps() {
        int before = pool.stepCount;
        pool.stepCount = 0;
        return before;
    }

    public int get(int record)
            throws IndexOutOfBoundsException, UnsupportedOperationException, IllegalStateException {
        needValue(record);
        pool.dropDrafts();
        int made = pool.viewOf(record);
        if (made < 0) {
            throw new UnsupportedOperationException("it is no record, a step does not fit, or it is too deep");
        }
        return kept(made);
    }

    public int put(int record, int view)
            throws IndexOutOfBoundsException, UnsupportedOperationException, IllegalStateException {
        needValue(record);
        needValue(view);
        pool.dropDrafts();
        int made = pool.viewOf(record) < 0 ? NONE : pool.putBack(view);
        if (made < 0) {
            throw new UnsupportedOperationException("one is no record, a step does not fit, or it is too deep");
        }
        return kept(made);
    }

    public int merge(int first, int one, int other) throws IndexOutOfBoundsException, IllegalStateException {
        needValue(first);
        needValue(one);
        needValue(other);
        pool.dropDrafts();
        int kept = kept(pool.merged(first, one, other));
        clashes = pool.clashes;
        return kept;
    }

    public int conflicts() {
        return clashes;
    }

    public int sample(int value) throws IndexOutOfBoundsException, IllegalStateException {
        needValue(value);
        if (sampleCount >= MOST_SAMPLES) {
            throw new IllegalStateException("there are 8 samples");
        }
        samples[sampleCount] = value;
        sampleCount++;
        return sampleCount;
    }

    public int clearSamples() {
        int before = sampleCount;
        sampleCount = 0;
        return before;
    }

    public int infer() throws IllegalStateException {
        int found = verdicts.found(samples, sampleCount);
        if (found < 0) {
            throw new IllegalStateException("there would be more than 50 schemas");
        }
        return found;
    }

    public boolean fits(int schema) throws IndexOutOfBoundsException {
        needSchema(schema);
        for (int i = 0; i < sampleCount; i++) {
            if (!verdicts.belongs(samples[i], schema)) {
                return false;
            }
        }
        return true;
    }

    public long gaps(int schema) throws IndexOutOfBoundsException {
        needSchema(schema);
        long sum = 0;
        for (int other = 0; other < book.count; other++) {
            sum += smallest(schema, other);
        }
        return sum;
    }

    public float share(int schema) throws IndexOutOfBoundsException, ArithmeticException {
        needSchema(schema);
        if (pool.count == 0) {
            throw new ArithmeticException("there are no values");
        }
        int those = 0;
        for (int v = 0; v < pool.count; v++) {
            if (verdicts.belongs(v, schema)) {
                those++;
            }
        }
        return (float) those / (float) pool.count;
    }

    public double meanSize() throws ArithmeticException {
        if (pool.count == 0) {
            throw new ArithmeticException("there are no values");
        }
        int sum = 0;
        for (int v = 0; v < pool.count; v++) {
            sum += pool.sizes[v];
        }
        return (double) sum / (double) pool.count;
    }

    public boolean isBorneOut(int schema, int other) throws IndexOutOfBoundsException {
        needSchema(schema);
        needSchema(other);
        int there = smallest(schema, other);
        int back = smallest(other, schema);
        for (int v = 0; v < pool.count; v++) {
            if (!bearsOut(v, schema, other, there) || !bearsOut(v, other, schema, back)) {
                return false;
            }
        }
        return true;
    }

    /** Whether a value is as told of a schema and of its gap to another one, 0 if it is within. */
    private boolean bearsOut(int value, int schema, int other, int gapSize) {
        boolean belongs = verdicts.belongs(value, schema);
        if (belongs != (verdicts.howMany(value, schema) == 0)) {
            return false;
        }
        return !belongs || verdicts.belongs(value, other) || (gapSize > 0 && gapSize <= pool.sizes[value]);
    }

    /**
     * The size of the smallest value of a schema and not of another one (-1: of any); 0 if there is none. It is sought by
     * several ways in turns: up from the leaves (see Climb), and down from the question (see Prover), by depth to see
     * whether there is one, and by size. Each way knows whether it came to its end.
     */
    private int smallest(int schema, int other) {
        if (!book.has(schema) || schema == other) {
            return 0;
        }
        refresh();
        int first = plain.stands[schema];
        int second = other < 0 ? NONE : plain.stands[other];
        int place = first * (MOST_SCHEMAS + 1) + second + 1;
        if (answers[place] == UNKNOWN) {
            int found = Prover.ENDLESS;
            start(Cone.bit(first), Cone.bit(second));
            isSure = first == second;
            for (int i = 0; i < STEPS.length && !isSure && (i < SHORT_STEPS || patience > 0); i++) {
                int turn = STEPS[i] % TURNS;
                int way = STEPS[i] - turn;
                long work = ways.clauses.work;
                int made = i == 1 ? verdicts.leastSize(schema, other) : 0;
                found = made > 0 ? Math.min(found, made) : found;
                if (way == UP && lower < MOST_SIZE) {
                    found = up(Cone.bit(first), Cone.bit(second), found, turn);
                } else if (way == THIN && found == Prover.ENDLESS) {
                    found = upThinned(Cone.bit(first), Cone.bit(second));
                } else if (way == ALONG && found == Prover.ENDLESS && !isThere) {
                    seeAlong(Cone.bit(first), Cone.bit(second), turn);
                } else if (way == ANY_SIZE && found == Prover.ENDLESS && !isThere) {
                    seeAnySize(Cone.bit(first), Cone.bit(second), turn);
                } else if (way == DEPTHS && found == Prover.ENDLESS && !isThere) {
                    depths.run(LOOKS[turn]);
                    found = depths.found;
                    isThere |= found < Prover.ENDLESS;
                    isSure = depths.lower >= Prover.ENDLESS;
                } else if (way == SIZES && lower < MOST_SIZE) {
                    sizes.adopt(depths);
                    if (turn > 0 && climb.isKept) {
                        sizes.stand(climb);
                    }
                    sizes.run(LOOKS[turn]);
                    found = Math.min(found, sizes.found);
                    lower = Math.max(lower, Math.min(sizes.lower, MOST_SIZE));
                    isSure = sizes.lower >= Prover.ENDLESS;
                }
                patience -= turn > 1 ? PAIRS_A_LOOK * (ways.clauses.work - work) : 0;
                // Greater ones all count the same.
                found = isThere && lower >= MOST_SIZE ? MOST_SIZE : found;
                isSure |= found <= lower;
            }
            keepAnswer(place, found);
        }
        int answer = answers[place] & ~UNSURE;
        if (answer == answers[place]) {
            return answer;
        }
        // A value that was made since can tell more.
        int size = verdicts.leastSize(schema, other);
        return answer == 0 ? size : size == 0 ? answer : Math.min(answer, size);
    }

    private void keepAnswer(int place, int found) {
        // Of what has no small value and very many kinds of great ones there most often is one.
        boolean isGreat = !isSure && (isThere || lower >= MOST_SIZE);
        int told = found < Prover.ENDLESS ? found : isGreat ? MOST_SIZE : 0;
        answers[place] = told | (isSure ? 0 : UNSURE);
    }

    /** Gets ready for the schemas as they are. */
    private void refresh() {
        if (edition == book.edition && plain.count == book.count) {
            return;
        }
        // A new schema changes nothing for the other ones.
        if (edition != book.edition) {
            Arrays.fill(answers, UNKNOWN);
        }
        edition = book.edition;
        plain.becomePlain(book);
        logic.prepare();
        depths.forget();
        sizes.forget();
    }

    /** Starts all ways with a question. */
    private void start(long must, long mustNot) {
        climb.forget();
        depths.start(must, mustNot);
        sizes.start(must, mustNot);
        lower = 1;
        isThere = false;
    }

    /** The smallest size found on the way up, or the one known, if none is smaller. */
    private int up(long must, long mustNot, int known, int turn) {
        long most = PAIRS[turn];
        climb.allow(ROWS[turn], most);
        climb.ask(must, mustNot);
        int size = climb.find(known);
        int found = climb.isAnySize ? known : Math.min(known, size);
        patience -= turn > 1 ? most - climb.pairs : 0;
        lower = Math.max(lower, climb.floor);
        isThere |= size < Prover.ENDLESS;
        isSure = found <= lower || (climb.isSure && (!climb.isAnySize || size == Prover.ENDLESS));
        climb.arrange();
        return found;
    }

    /** The size of some value, if one is found on the way up though of too many kinds some are left out. */
    private int upThinned(long must, long mustNot) {
        climb.allow(MOST_ROWS_THIN, PAIRS_THIN);
        climb.thinOut(ROWS_OF_SIZE);
        climb.ask(must, mustNot);
        return climb.find(Prover.ENDLESS);
    }

    /** Sees whether there is an answer among great values that are easily made. */
    private void seeAlong(long must, long mustNot, int turn) {
        climb.allow(MOST_ROWS_ALONG, PAIRS_ALONG[turn]);
        climb.leaveSizes();
        climb.ask(must, mustNot);
        isThere = climb.findAlong(logic);
        patience -= turn > 1 ? PAIRS_ALONG[turn] - climb.pairs : 0;
    }

    /** Sees on the way up whether there is an answer of any size at all. */
    private void seeAnySize(long must, long mustNot, int turn) {
        if (turn > 1 && climb.isLine()) {
            return;
        }
        climb.allow(ROWS[turn], PAIRS_ANY[turn]);
        climb.leaveSizes();
        climb.ask(must, mustNot);
        isThere = climb.find(Prover.ENDLESS) < Prover.ENDLESS;
        isSure = climb.isSure && !isThere;
        patience -= turn > 1 ? PAIRS_ANY[turn] - climb.pairs : 0;
    }

    private void needValue(int value) {
        if (!pool.has(value)) {
            throw new IndexOutOfBoundsException("no such value");
        }
    }

    private void needSchema(int schema) {
        if (!book.has(schema)) {
            throw new IndexOutOfBoundsException("no such schema");
        }
    }

    private void seekFault(int index) {
        if (index < 0 || index >= told.remembered) {
            throw new IndexOutOfBoundsException("no such fault");
        }
        told.seek(index);
    }

    /** Keeps what was made; nothing is made if there is no room. */
    private int kept(int made) {
        int kept = pool.keep(made);
        if (kept < 0) {
            throw new IllegalStateException("there are 200 values");
        }
        return kept;
    }

    private boolean isPart(int value) {
        return value == NONE || pool.has(value);
    }

    private static boolean isLabel(int label) {
        return label >= 0 && label < LABELS;
    }

    private static boolean isLeaf(char kind, int number) {
        switch (kind) {
            case 'z':
                return true;
            case 'b':
                return number >= 0 && number <= 1;
            case 'n':
                return number >= -99 && number <= 99;
            case 's':
                return number >= 0 && number <= 9;
            default:
                return false;
        }
    }

    private void clearRow() {
        Arrays.fill(pool.row, NONE);
    }

    /** The number of parts told in the row, or -1 if one stands behind a gap. */
    private int rowLength() {
        int length = 0;
        for (int i = 0; i < MOST_PARTS; i++) {
            if (pool.row[i] >= 0) {
                if (length < i) {
                    return NONE;
                }
                length++;
            }
        }
        return length;
    }

    /**
     * The values, and what is made of them by the lens and by merging. Behind them stand drafts of values: a call that may
     * fail late works on drafts, and keeps those that its answer has only when nothing can go wrong any more.
     */
    private static final class Values {
        private static final int DRAFTS = 400;
        private static final int ROOM = MOST_VALUES + DRAFTS;

        final char[] kinds = new char[ROOM];
        final int[] numbers = new int[ROOM];
        final int[] sizes = new int[ROOM];
        private final int[] parts = new int[MOST_PARTS * ROOM];
        private final int[] depths = new int[ROOM];
        private final int[] places = new int[ROOM];
        private final int[] fresh = new int[DRAFTS];
        private final int[] work = new int[MOST_PARTS];
        /** The parts of a value that is asked for. */
        final int[] row = new int[MOST_PARTS];
        int count;
        private int drafts;
        private int freshCount;
        /** The steps of the lens, and what they were done to. */
        private final char[] stepKinds = new char[MOST_STEPS];
        private final int[] stepFirsts = new int[MOST_STEPS];
        private final int[] stepSeconds = new int[MOST_STEPS];
        private final int[] trail = new int[MOST_STEPS + 1];
        private final int[] alone = {NONE, NONE, NONE, NONE};
        /** What is merged of the parts, for each depth. */
        private final int[] rows = new int[(MOST_DEPTH + 1) * MOST_PARTS];
        int stepCount;
        int clashes;

        boolean has(int value) {
            return value >= 0 && value < count;
        }

        private boolean stands(int value) {
            return value >= 0 && (value < count || (value >= MOST_VALUES && value < MOST_VALUES + drafts));
        }

        boolean isRecord(int value) {
            return stands(value) && kinds[value] == 'o';
        }

        boolean isList(int value) {
            return stands(value) && kinds[value] == 'l';
        }

        /** The part at a place or label, or -1. */
        int at(int value, int index) {
            if (value < 0 || value >= ROOM || index < 0 || index >= MOST_PARTS) {
                return NONE;
            }
            return parts[value * MOST_PARTS + index];
        }

        void dropDrafts() {
            drafts = 0;
        }

        /** The value with these parts, kept or drafted, or -1 if it would be too deep. */
        int draft(char kind, int number, int[] row, int from) {
            if (from < 0 || from + MOST_PARTS > row.length) {
                return NONE;
            }
            int depth = 1;
            int size = 1;
            for (int i = 0; i < MOST_PARTS; i++) {
                int part = row[from + i];
                if (stands(part)) {
                    depth = Math.max(depth, depths[part] + 1);
                    size += sizes[part];
                }
            }
            if (depth > MOST_DEPTH) {
                return NONE;
            }
            int same = findSame(kind, number, row, from);
            if (same >= 0) {
                return same;
            }
            if (drafts >= DRAFTS) {
                return NONE;
            }
            int made = MOST_VALUES + drafts;
            drafts++;
            fill(made, kind, number, depth, size);
            System.arraycopy(row, from, parts, made * MOST_PARTS, MOST_PARTS);
            places[made] = NONE;
            return made;
        }

        private void fill(int value, char kind, int number, int depth, int size) {
            kinds[value] = kind;
            numbers[value] = number;
            depths[value] = depth;
            sizes[value] = size;
        }

        private int findSame(char kind, int number, int[] row, int from) {
            for (int v = 0; v < MOST_VALUES + drafts; v++) {
                int place = v * MOST_PARTS;
                boolean kept = v < count || v >= MOST_VALUES;
                if (kept && kinds[v] == kind && numbers[v] == number
                        && parts[place] == row[from] && parts[place + 1] == row[from + 1]
                        && parts[place + 2] == row[from + 2] && parts[place + 3] == row[from + 3]) {
                    return v;
                }
            }
            return NONE;
        }

        /** What the record becomes with a value, or -1 for none, at a label; -1 if that is too deep. */
        int labelled(int record, int label, int value) {
            if (!isRecord(record) || label < 0 || label >= LABELS) {
                return NONE;
            }
            System.arraycopy(parts, record * MOST_PARTS, work, 0, MOST_PARTS);
            work[label] = value;
            return draft('o', labelBits(work, 0), work, 0);
        }

        static int labelBits(int[] row, int from) {
            int bits = 0;
            for (int i = 0; i < LABELS; i++) {
                if (row[from + i] >= 0) {
                    bits |= 1 << i;
                }
            }
            return bits;
        }

        /** Numbers a draft and its drafted parts, the parts first; -1, and nothing done, if there is no room. */
        int keep(int value) {
            if (!stands(value)) {
                return NONE;
            }
            if (value < MOST_VALUES) {
                return value;
            }
            freshCount = 0;
            place(value, 1);
            if (count + freshCount > MOST_VALUES) {
                return NONE;
            }
            for (int i = 0; i < freshCount; i++) {
                move(fresh[i]);
            }
            return places[value];
        }

        private void place(int value, int depth) {
            if (value < MOST_VALUES || places[value] >= 0 || depth > MOST_DEPTH || freshCount >= DRAFTS) {
                return;
            }
            for (int i = 0; i < MOST_PARTS; i++) {
                place(parts[value * MOST_PARTS + i], depth + 1);
            }
            places[value] = count + freshCount;
            fresh[freshCount] = value;
            freshCount++;
        }

        private void move(int value) {
            int place = count;
            fill(place, kinds[value], numbers[value], depths[value], sizes[value]);
            for (int i = 0; i < MOST_PARTS; i++) {
                int part = parts[value * MOST_PARTS + i];
                parts[place * MOST_PARTS + i] = part >= MOST_VALUES ? places[part] : part;
            }
            count++;
        }

        /** Whether there is such a step, its label a being one. */
        static boolean takes(char kind, int a, int b) {
            switch (kind) {
                case 'r':
                case 'n':
                    return isLabel(b) && a != b;
                case 's':
                    return b >= 0 && b <= 9;
                case 'a':
                case 'd':
                case 'w':
                    return true;
                default:
                    return false;
            }
        }

        /** The number of steps with this one, or -1 if there is no room. */
        int addStep(char kind, int a, int b) {
            if (stepCount >= MOST_STEPS) {
                return NONE;
            }
            stepKinds[stepCount] = kind;
            stepFirsts[stepCount] = a;
            stepSeconds[stepCount] = b;
            stepCount++;
            return stepCount;
        }

        /** The view, or -1 if a step does not fit. */
        int viewOf(int record) {
            trail[0] = isRecord(record) ? record : NONE;
            for (int i = 0; i < stepCount; i++) {
                trail[i + 1] = isRecord(trail[i]) ? done(i, trail[i]) : NONE;
            }
            return trail[stepCount];
        }

        /** The record that has this view, or -1 if a step does not fit, after a view was got from the old one. */
        int putBack(int view) {
            int now = view;
            for (int i = stepCount - 1; i >= 0; i--) {
                now = isRecord(now) ? undone(i, now) : NONE;
            }
            return isRecord(now) ? now : NONE;
        }

        private int done(int step, int record) {
            int a = stepFirsts[step];
            int b = stepSeconds[step];
            int there = at(record, a);
            switch (stepKinds[step]) {
                case 'r':
                    return renamed(record, a, b);
                case 'd':
                    return labelled(record, a, NONE);
                case 'a':
                    return there >= 0 ? NONE : labelled(record, a, b);
                case 'n':
                    return putIn(record, a, b);
                case 'w':
                    return there < 0 ? record : labelled(record, a, listOf(there));
                default:
                    return swapped(record, a, b);
            }
        }

        private int undone(int step, int record) {
            int a = stepFirsts[step];
            int b = stepSeconds[step];
            int there = at(record, a);
            switch (stepKinds[step]) {
                case 'r':
                    return renamed(record, b, a);
                case 'd':
                    return there >= 0 ? NONE : labelled(record, a, at(trail[step], a));
                case 'a':
                    return there == b ? labelled(record, a, NONE) : NONE;
                case 'n':
                    return takenOut(record, a, b);
                case 'w':
                    return there < 0 ? record : unlisted(record, a, there);
                default:
                    return swapped(record, a, b);
            }
        }

        private int renamed(int record, int from, int to) {
            if (at(record, to) >= 0) {
                return NONE;
            }
            int there = at(record, from);
            return there < 0 ? record : labelled(labelled(record, from, NONE), to, there);
        }

        private int putIn(int record, int a, int b) {
            int inner = at(record, b);
            if (!isRecord(inner) || at(inner, a) >= 0) {
                return NONE;
            }
            int there = at(record, a);
            if (there < 0) {
                return record;
            }
            int fuller = labelled(inner, a, there);
            return fuller < 0 ? NONE : labelled(labelled(record, a, NONE), b, fuller);
        }

        private int takenOut(int record, int a, int b) {
            int inner = at(record, b);
            if (!isRecord(inner) || at(record, a) >= 0) {
                return NONE;
            }
            int there = at(inner, a);
            if (there < 0) {
                return record;
            }
            int emptier = labelled(inner, a, NONE);
            return labelled(labelled(record, b, emptier), a, there);
        }

        /** A list of one part, or -1 if that is too deep. */
        private int listOf(int part) {
            alone[0] = part;
            return draft('l', 1, alone, 0);
        }

        private int unlisted(int record, int label, int there) {
            boolean fits = isList(there) && numbers[there] == 1;
            return fits ? labelled(record, label, at(there, 0)) : NONE;
        }

        private int swapped(int record, int label, int symbol) {
            int there = at(record, label);
            if (there < 0 || kinds[there] != 's') {
                return record;
            }
            int before = numbers[there];
            if (before != symbol && before != 9 - symbol) {
                return record;
            }
            alone[0] = NONE;
            return labelled(record, label, draft('s', 9 - before, alone, 0));
        }

        /** What is merged of two values that came from a first one. */
        int merged(int first, int one, int other) {
            clashes = 0;
            return mergedAt(first, one, other, 0);
        }

        /** What is merged, where -1 is nothing there. */
        private int mergedAt(int first, int one, int other, int depth) {
            if (one == other || first == other) {
                return one;
            }
            if (first == one) {
                return other;
            }
            boolean records = isRecord(first) && isRecord(one) && isRecord(other);
            if (depth > MOST_DEPTH || !(records || areListsOfOneLength(first, one, other))) {
                clashes++;
                return one;
            }
            int from = depth * MOST_PARTS;
            for (int i = 0; i < MOST_PARTS; i++) {
                rows[from + i] = mergedAt(at(first, i), at(one, i), at(other, i), depth + 1);
            }
            char kind = records ? 'o' : 'l';
            return draft(kind, records ? labelBits(rows, from) : numbers[first], rows, from);
        }

        private boolean areListsOfOneLength(int first, int one, int other) {
            return isList(first) && isList(one) && isList(other)
                    && numbers[first] == numbers[one] && numbers[first] == numbers[other];
        }
    }

    /** The schemas and what the names are bound to. */
    private static final class Schemas {
        /** The sort of what all values are of. */
        private static final int ALL = 1;

        final char[] kinds = new char[MOST_SCHEMAS];
        final int[] firsts = new int[MOST_SCHEMAS];
        final int[] seconds = new int[MOST_SCHEMAS];
        final int[] thirds = new int[MOST_SCHEMAS];
        final int[] items = new int[MOST_SCHEMAS * LABELS];
        /** The labels, as bits, that must be there, and those that are told. */
        private final int[] musts = new int[MOST_SCHEMAS];
        private final int[] told = new int[MOST_SCHEMAS];
        final int[] bound = {NONE, NONE, NONE, NONE, NONE, NONE};
        /** Each schema behind all that it is joined from without a list or record between. */
        final int[] order = new int[MOST_SCHEMAS];
        int count;
        /** Grows when a schema comes to mean something else, so that what was worked out can be thrown away. */
        int edition;
        /** The schemas that are seen to have no values, and all values, from how they are written alone. */
        long never;
        long always;
        private int foldedEdition = NONE;
        private int foldedCount;
        /** What schemas come to, as it is seen from how they are written: a number each, the contrary one with a minus. */
        private final int[] sorts = new int[MOST_SCHEMAS];
        private final int[] oldSorts = new int[MOST_SCHEMAS];
        /** The first schema that comes to the same as each. */
        final int[] stands = new int[MOST_SCHEMAS];

        boolean has(int schema) {
            return schema >= 0 && schema < count;
        }

        static boolean isKind(char kind) {
            switch (kind) {
                case 'a':
                case '0':
                case 'z':
                case 'b':
                case 'n':
                case 's':
                case 'l':
                case 'o':
                case 'u':
                case '&':
                case '!':
                case 'r':
                    return true;
                default:
                    return false;
            }
        }

        static boolean isInRange(char kind, int a, int b, int c) {
            switch (kind) {
                case 'n':
                    return a >= -99 && a <= b && b <= 99;
                case 's':
                    return a >= 0 && a <= 1023;
                case 'l':
                    return b >= 0 && b <= c && c <= MOST_PARTS;
                case 'o':
                    return a == 0 || a == 1;
                case 'r':
                    return a >= 0 && a < NAMES;
                default:
                    return true;
            }
        }

        boolean hasParts(char kind, int a, int b) {
            switch (kind) {
                case 'u':
                case '&':
                    return has(a) && has(b);
                case '!':
                case 'l':
                    return has(a);
                default:
                    return true;
            }
        }

        /** The new schema, or -1 if there is no room. */
        int add(char kind, int a, int b, int c) {
            if (count >= MOST_SCHEMAS) {
                return NONE;
            }
            int made = count;
            kinds[made] = kind;
            firsts[made] = a;
            seconds[made] = b;
            thirds[made] = c;
            for (int label = 0; label < LABELS; label++) {
                items[made * LABELS + label] = NONE;
            }
            musts[made] = 0;
            told[made] = 0;
            order[made] = made;
            count++;
            return made;
        }

        /** Tells a label, and returns what was told before, or -1. */
        int tell(int schema, int label, int item, boolean must) {
            int place = schema * LABELS + label;
            int before = items[place];
            items[place] = item;
            int bit = 1 << label;
            musts[schema] = must && item >= 0 ? musts[schema] | bit : musts[schema] & ~bit;
            told[schema] = item >= 0 ? told[schema] | bit : told[schema] & ~bit;
            edition++;
            return before;
        }

        /** The schema told for a label, or -1. */
        int itemAt(int schema, int label) {
            if (schema < 0 || schema >= count || label < 0 || label >= LABELS) {
                return NONE;
            }
            return items[schema * LABELS + label];
        }

        boolean mustHave(int schema, int label) {
            return schema >= 0 && schema < count && label >= 0 && label < LABELS
                    && (musts[schema] >> label & 1) == 1;
        }

        /** The schema for the part at a place of a list or at a label, or -1. */
        int below(int schema, int index) {
            if (kinds[schema] == 'l') {
                return firsts[schema];
            }
            return index < 0 || index >= LABELS ? NONE : items[schema * LABELS + index];
        }

        /** The places of a list or the labels, as bits, at which something must be. */
        int needed(int schema) {
            return kinds[schema] == 'l' ? (1 << seconds[schema]) - 1 : musts[schema];
        }

        /** The places of a list or the labels, as bits, at which nothing must be. */
        int barred(int schema) {
            if (kinds[schema] == 'l') {
                return ALL_PLACES & -(1 << thirds[schema]);
            }
            return firsts[schema] == 1 ? ALL_PLACES & ~told[schema] : 0;
        }

        /** The labels, as bits, of which a record schema tells something. */
        int tells(int schema) {
            return told[schema];
        }

        boolean isClosed(int schema) {
            return schema >= 0 && schema < count && firsts[schema] == 1;
        }

        /** The schema to which the name of an 'r' is bound, or -1. */
        int target(int schema) {
            if (schema < 0 || schema >= count || firsts[schema] < 0 || firsts[schema] >= NAMES) {
                return NONE;
            }
            return bound[firsts[schema]];
        }

        int rebind(int name, int schema) {
            int before = bound[name];
            bound[name] = schema;
            edition++;
            arrange();
            return before;
        }

        /** Whether a name is met from the schema by joins and names alone. */
        boolean leadsTo(int schema, int name) {
            long met = 1L << schema;
            long before = 0;
            for (int pass = 0; pass < MOST_SCHEMAS && met != before; pass++) {
                before = met;
                for (int s = 0; s < count; s++) {
                    if ((met >> s & 1) == 1) {
                        met |= joined(s);
                    }
                }
            }
            for (int s = 0; s < count; s++) {
                if ((met >> s & 1) == 1 && kinds[s] == 'r' && firsts[s] == name) {
                    return true;
                }
            }
            return false;
        }

        /** The bits of the schemas that tell of the same value as this one. */
        long joined(int schema) {
            switch (kinds[schema]) {
                case 'u':
                case '&':
                    return 1L << firsts[schema] | 1L << seconds[schema];
                case '!':
                    return 1L << firsts[schema];
                case 'r':
                    return target(schema) < 0 ? 0 : 1L << target(schema);
                default:
                    return 0;
            }
        }

        /** The bits of the schemas that tell of the parts of a value of this one. */
        long nested(int schema) {
            if (kinds[schema] == 'l') {
                return 1L << firsts[schema];
            }
            long bits = 0;
            if (kinds[schema] == 'o') {
                for (int label = 0; label < LABELS; label++) {
                    int item = itemAt(schema, label);
                    bits |= item < 0 ? 0 : 1L << item;
                }
            }
            return bits;
        }

        /** Finds the schemas that are always or never met. */
        void fold() {
            if (foldedEdition == edition && foldedCount == count) {
                return;
            }
            foldedEdition = edition;
            foldedCount = count;
            never = 0;
            always = 0;
            boolean grown = true;
            for (int pass = 0; pass <= MOST_SCHEMAS && grown; pass++) {
                long before = never | always;
                for (int s = 0; s < count; s++) {
                    never |= isNever(s) ? 1L << s : 0;
                    always |= isAlways(s) ? 1L << s : 0;
                }
                grown = (never | always) != before;
            }
        }

        private boolean isNever(int s) {
            int a = firsts[s];
            switch (kinds[s]) {
                case '0':
                    return true;
                case 's':
                    return a == 0;
                case 'l':
                    return seconds[s] > 0 && isIn(never, a);
                case 'o':
                    return mustHaveNever(s);
                case 'u':
                    return isIn(never, a) && isIn(never, seconds[s]);
                case '&':
                    return isIn(never, a) || isIn(never, seconds[s]) || areOpposed(a, seconds[s]);
                case '!':
                    return isIn(always, a);
                case 'r':
                    return target(s) < 0 || isIn(never, target(s));
                default:
                    return false;
            }
        }

        private boolean isAlways(int s) {
            int a = firsts[s];
            switch (kinds[s]) {
                case 'a':
                    return true;
                case 'u':
                    return isIn(always, a) || isIn(always, seconds[s]) || areOpposed(a, seconds[s]);
                case '&':
                    return isIn(always, a) && isIn(always, seconds[s]);
                case '!':
                    return isIn(never, a);
                case 'r':
                    return isIn(always, target(s));
                default:
                    return false;
            }
        }

        private boolean mustHaveNever(int s) {
            for (int label = 0; label < LABELS; label++) {
                if (mustHave(s, label) && isIn(never, itemAt(s, label))) {
                    return true;
                }
            }
            return false;
        }

        private boolean areOpposed(int a, int b) {
            return (kinds[a] == '!' && firsts[a] == b) || (kinds[b] == '!' && firsts[b] == a);
        }

        private static boolean isIn(long bits, int schema) {
            return schema >= 0 && (bits >> schema & 1) == 1;
        }

        private void arrange() {
            long placed = 0;
            int next = 0;
            for (int pass = 0; pass < MOST_SCHEMAS && next < count; pass++) {
                for (int s = 0; s < count && next < count; s++) {
                    if ((placed >> s & 1) == 0 && (joined(s) & ~placed) == 0) {
                        placed |= 1L << s;
                        order[next] = s;
                        next++;
                    }
                }
            }
        }

        /** Whether the numbers or symbols of a leaf's schema have this one. */
        boolean takesNumber(int schema, int number) {
            switch (kinds[schema]) {
                case 'n':
                    return number >= firsts[schema] && number <= seconds[schema];
                case 's':
                    return number >= 0 && number <= 9 && (firsts[schema] >> number & 1) == 1;
                default:
                    return true;
            }
        }

        /** Takes back all schemas from this number on. */
        void cut(int number) {
            if (number >= 0 && number < count) {
                count = number;
            }
        }

        void become(Schemas other) {
            System.arraycopy(other.kinds, 0, kinds, 0, MOST_SCHEMAS);
            System.arraycopy(other.firsts, 0, firsts, 0, MOST_SCHEMAS);
            System.arraycopy(other.seconds, 0, seconds, 0, MOST_SCHEMAS);
            System.arraycopy(other.thirds, 0, thirds, 0, MOST_SCHEMAS);
            System.arraycopy(other.items, 0, items, 0, MOST_SCHEMAS * LABELS);
            System.arraycopy(other.musts, 0, musts, 0, MOST_SCHEMAS);
            System.arraycopy(other.told, 0, told, 0, MOST_SCHEMAS);
            System.arraycopy(other.bound, 0, bound, 0, NAMES);
            System.arraycopy(other.order, 0, order, 0, MOST_SCHEMAS);
            count = other.count;
            edition = other.edition;
            foldedEdition = NONE;
        }

        /** Becomes what another one tells, but where schemas come to the same by how they are written, the first one stands for all. */
        void becomePlain(Schemas other) {
            become(other);
            fold();
            Arrays.fill(sorts, 0);
            boolean isStable = false;
            for (int pass = 0; pass <= 2 * MOST_SCHEMAS && !isStable; pass++) {
                isStable = sortOut();
            }
            for (int s = 0; s < count && !isStable; s++) {
                sorts[s] = ALL + 1 + s;
            }
            tellFirsts();
        }

        /** Sorts schemas by how they are written, and by how what they are made of was sorted; returns whether all stayed the same. */
        private boolean sortOut() {
            System.arraycopy(sorts, 0, oldSorts, 0, MOST_SCHEMAS);
            int most = ALL;
            for (int i = 0; i < count; i++) {
                int s = order[i];
                sorts[s] = plainSort(s);
                for (int k = 0; k < i && sorts[s] == 0; k++) {
                    int t = order[k];
                    sorts[s] = !isLike(s, t) ? 0 : (kinds[s] == 'u') == (kinds[t] == 'u') ? sorts[t] : -sorts[t];
                }
                if (sorts[s] == 0) {
                    most++;
                    sorts[s] = kinds[s] == 'u' ? -most : most;
                }
            }
            for (int s = 0; s < count; s++) {
                if (sorts[s] != oldSorts[s]) {
                    return false;
                }
            }
            return true;
        }

        /** The sort of a schema that comes to the same as one that it is made of, or as all or none of the values; otherwise 0. */
        private int plainSort(int s) {
            int a = firsts[s];
            int b = seconds[s];
            if (isIn(never | always, s)) {
                return isIn(always, s) ? ALL : -ALL;
            }
            switch (kinds[s]) {
                case 'r':
                    return target(s) < 0 ? -ALL : sorts[target(s)];
                case '!':
                    return -sorts[a];
                case 'u':
                    return -metSort(-sorts[a], -sorts[b]);
                case '&':
                    return metSort(sorts[a], sorts[b]);
                case 'l':
                    return b > 0 && oldSorts[a] == -ALL ? -ALL : 0;
                case 'o':
                    return mustHaveNone(s) ? -ALL : 0;
                default:
                    return 0;
            }
        }

        private static int metSort(int one, int other) {
            if (one == -ALL || other == -ALL || one == -other) {
                return -ALL;
            }
            if (one == ALL || one == other) {
                return other;
            }
            return other == ALL ? one : 0;
        }

        private boolean mustHaveNone(int s) {
            for (int label = 0; label < LABELS; label++) {
                if (mustHave(s, label) && sortAt(s, label) == -ALL) {
                    return true;
                }
            }
            return false;
        }

        /** The sort of what can be at a label. */
        private int sortAt(int s, int label) {
            int item = items[s * LABELS + label];
            return item >= 0 ? oldSorts[item] : firsts[s] == 1 ? -ALL : ALL;
        }

        /** Whether two schemas of which neither comes to less are written alike; a union is the contrary of a meet of contraries. */
        private boolean isLike(int s, int t) {
            char kind = kinds[s];
            if (kind == 'u' || kind == '&') {
                int sign = kind == kinds[t] ? 1 : -1;
                int a = sign * sorts[firsts[s]];
                int b = sign * sorts[seconds[s]];
                int c = kinds[t] == 'u' || kinds[t] == '&' ? sorts[firsts[t]] : 0;
                int d = c == 0 ? 0 : sorts[seconds[t]];
                return (a == c && b == d) || (a == d && b == c);
            }
            if (kind != kinds[t]) {
                return false;
            }
            switch (kind) {
                case 'n':
                    return firsts[s] == firsts[t] && seconds[s] == seconds[t];
                case 's':
                    return firsts[s] == firsts[t];
                case 'l':
                    return seconds[s] == seconds[t] && thirds[s] == thirds[t]
                            && (thirds[s] == 0 || oldSorts[firsts[s]] == oldSorts[firsts[t]]);
                case 'o':
                    return musts[s] == musts[t] && sortAt(s, 0) == sortAt(t, 0) && sortAt(s, 1) == sortAt(t, 1)
                            && sortAt(s, 2) == sortAt(t, 2) && sortAt(s, 3) == sortAt(t, 3);
                default:
                    return kind != '!' && kind != 'r';
            }
        }

        /** Tells of the first one of each sort instead of the others. */
        private void tellFirsts() {
            for (int i = count - 1; i >= 0; i--) {
                int s = order[i];
                for (int k = i; k >= 0; k--) {
                    stands[s] = sorts[order[k]] == sorts[s] ? order[k] : stands[s];
                }
            }
            for (int s = 0; s < count; s++) {
                if (kinds[s] == 'u' || kinds[s] == '&') {
                    seconds[s] = stands[seconds[s]];
                    firsts[s] = stands[firsts[s]];
                } else if (kinds[s] == '!' || kinds[s] == 'l') {
                    firsts[s] = stands[firsts[s]];
                }
                never |= sorts[s] == -ALL ? 1L << s : 0;
                always |= sorts[s] == ALL ? 1L << s : 0;
            }
            for (int i = 0; i < count * LABELS; i++) {
                items[i] = items[i] < 0 ? NONE : stands[items[i]];
            }
            for (int name = 0; name < NAMES; name++) {
                bound[name] = bound[name] < 0 ? NONE : stands[bound[name]];
            }
        }
    }

    /**
     * What values and schemas have to do with each other: which values are of which schemas, and what they lack, each
     * worked out by its own rules, and once until a schema changes; and the schemas that are found from samples.
     * Faults can be more than could be listed, so they are counted for each value
     * and schema, and the one at an index is sought down along the counts. A union asks which of two
     * counts is smaller, so they are kept in full, in digits of 60 bits: '&' can double a count some
     * fifty times on each of six levels.
     */
    private static final class Verdicts {
        private static final int DIGITS = 6;
        private static final int DIGIT_BITS = 60;
        private static final long MANY = 1L << DIGIT_BITS;
        private static final int MOST_SEEKING = 1000;
        private static final int LEVELS = MOST_DEPTH + 2;
        private static final int KINDS = 6;

        private final Values pool;
        private final Schemas book;
        private final long[] bits = new long[MOST_VALUES];
        private final long[] counts = new long[MOST_VALUES * MOST_SCHEMAS * DIGITS];
        private final int[] editions = new int[MOST_VALUES];
        private final int[] filled = new int[MOST_VALUES];
        private int value = NONE;
        private int schema = NONE;
        private long left;
        /** How many faults were found last; there can be more than an int holds. */
        long remembered;
        char letter;
        int path;
        /** For each level below the samples: the values there, the schemas for labels, and those for kinds. */
        private final int[] marks = new int[LEVELS * MOST_VALUES];
        private final int[] itemsFound = new int[LEVELS * LABELS];
        private final int[] kindsFound = new int[LEVELS * KINDS];

        Verdicts(Values pool, Schemas book) {
            this.pool = pool;
            this.book = book;
        }

        boolean belongs(int ofValue, int ofSchema) {
            if (!pool.has(ofValue) || !book.has(ofSchema)) {
                return false;
            }
            work(ofValue, 1);
            return hasBit(ofValue, ofSchema);
        }

        /** The smallest size of a value that was made and is of a schema and not of another one (-1: of any), or 0. */
        int leastSize(int ofSchema, int other) {
            int found = 0;
            for (int v = 0; v < pool.count; v++) {
                if (found == 0 || pool.sizes[v] < found) {
                    work(v, 1);
                    found = hasBit(v, ofSchema) && !hasBit(v, other) ? Math.min(pool.sizes[v], MOST_SIZE) : found;
                }
            }
            return found;
        }

        /** The number of faults, or a greater one than any that is counted where there are more. */
        long howMany(int ofValue, int ofSchema) {
            if (!pool.has(ofValue) || !book.has(ofSchema)) {
                return 0;
            }
            work(ofValue, 1);
            return counted(ofValue, ofSchema);
        }

        void remember(int ofValue, int ofSchema) {
            work(ofValue, 1);
            value = ofValue;
            schema = ofSchema;
            remembered = counted(ofValue, ofSchema);
        }

        private void work(int v, int depth) {
            if (!pool.has(v) || depth > MOST_DEPTH) {
                return;
            }
            if (editions[v] != book.edition) {
                editions[v] = book.edition;
                filled[v] = 0;
                bits[v] = 0;
            }
            if (filled[v] >= book.count) {
                return;
            }
            for (int i = 0; i < MOST_PARTS; i++) {
                work(pool.at(v, i), depth + 1);
            }
            for (int i = filled[v]; i < book.count; i++) {
                int s = book.order[i];
                bits[v] |= isMember(v, s) ? 1L << s : 0;
                count(v, s);
            }
            filled[v] = book.count;
        }

        private boolean isMember(int v, int s) {
            char kind = book.kinds[s];
            int a = book.firsts[s];
            switch (kind) {
                case 'a':
                    return true;
                case 'u':
                    return hasBit(v, a) || hasBit(v, book.seconds[s]);
                case '&':
                    return hasBit(v, a) && hasBit(v, book.seconds[s]);
                case '!':
                    return !hasBit(v, a);
                case 'r':
                    return hasBit(v, book.target(s));
                case 'l':
                    return pool.kinds[v] == kind && isListOf(v, s);
                case 'o':
                    return pool.kinds[v] == kind && isRecordOf(v, s);
                default:
                    return pool.kinds[v] == kind && book.takesNumber(s, pool.numbers[v]);
            }
        }

        private boolean hasBit(int v, int s) {
            return v >= 0 && s >= 0 && (bits[v] >> s & 1) == 1;
        }

        private boolean isListOf(int v, int s) {
            int length = pool.numbers[v];
            if (length < book.seconds[s] || length > book.thirds[s]) {
                return false;
            }
            for (int i = 0; i < length; i++) {
                if (!hasBit(pool.at(v, i), book.firsts[s])) {
                    return false;
                }
            }
            return true;
        }

        private boolean isRecordOf(int v, int s) {
            for (int label = 0; label < LABELS; label++) {
                int item = book.itemAt(s, label);
                int there = pool.at(v, label);
                if (there < 0 ? book.mustHave(s, label) : item < 0 ? book.isClosed(s) : !hasBit(there, item)) {
                    return false;
                }
            }
            return true;
        }

        private void count(int v, int s) {
            int first = book.firsts[s];
            int into = placeOf(v, s);
            Arrays.fill(counts, into, into + DIGITS, 0);
            switch (book.kinds[s]) {
                case 'a':
                    break;
                case '0':
                    raise(into, NONE, 1);
                    break;
                case 'u':
                    raise(into, placeOf(v, lesserSide(v, s)), 0);
                    break;
                case '&':
                    raise(into, placeOf(v, first), 0);
                    raise(into, placeOf(v, book.seconds[s]), 0);
                    break;
                case '!':
                    raise(into, NONE, counted(v, first) == 0 ? 1 : 0);
                    break;
                case 'r':
                    raise(into, placeOf(v, book.target(s)), book.target(s) < 0 ? 1 : 0);
                    break;
                default:
                    countOwn(v, s, into);
                    break;
            }
        }

        /** Counts what a value lacks by its kind, and what its parts lack. */
        private void countOwn(int v, int s, int into) {
            char own = ownFault(v, s);
            raise(into, NONE, own == ' ' ? 0 : 1);
            for (int i = 0; i < MOST_PARTS && own != 'k'; i++) {
                if (labelFault(v, s, i) != ' ') {
                    raise(into, NONE, 1);
                } else {
                    raise(into, placeOf(pool.at(v, i), book.below(s, i)), 0);
                }
            }
        }

        /** Where the count of a value and a schema stands, or -1. */
        private static int placeOf(int v, int s) {
            return v < 0 || s < 0 ? NONE : (v * MOST_SCHEMAS + s) * DIGITS;
        }

        /** Adds a count, if there is one, and a small number to another count. */
        private void raise(int into, int from, long more) {
            long carried = more;
            for (int i = 0; i < DIGITS; i++) {
                long sum = counts[into + i] + (from < 0 ? 0 : counts[from + i]) + carried;
                counts[into + i] = sum & (MANY - 1);
                carried = sum >>> DIGIT_BITS;
            }
        }

        /** The count, or a greater number than any digit if it has more than one. */
        private long counted(int v, int s) {
            int place = placeOf(v, s);
            if (place < 0) {
                return 0;
            }
            for (int i = 1; i < DIGITS; i++) {
                if (counts[place + i] != 0) {
                    return MANY;
                }
            }
            return counts[place];
        }

        /** The part of a union of which a value has fewer faults, of as many the first one. */
        private int lesserSide(int v, int s) {
            int one = placeOf(v, book.firsts[s]);
            int other = placeOf(v, book.seconds[s]);
            for (int i = DIGITS - 1; i >= 0; i--) {
                if (counts[one + i] != counts[other + i]) {
                    return counts[one + i] < counts[other + i] ? book.firsts[s] : book.seconds[s];
                }
            }
            return book.firsts[s];
        }

        /** The fault of the value by its kind, number or length, or a blank. */
        private char ownFault(int v, int s) {
            char kind = book.kinds[s];
            int number = pool.numbers[v];
            if (kind != pool.kinds[v]) {
                return 'k';
            }
            switch (kind) {
                case 'n':
                    return number < book.firsts[s] || number > book.seconds[s] ? 'r' : ' ';
                case 's':
                    return (book.firsts[s] >> number & 1) == 0 ? 'm' : ' ';
                case 'l':
                    return number < book.seconds[s] || number > book.thirds[s] ? 'g' : ' ';
                default:
                    return ' ';
            }
        }

        private long faultsAt(int v, int s, int index) {
            return labelFault(v, s, index) != ' ' ? 1 : counted(pool.at(v, index), book.below(s, index));
        }

        /** The fault of a label by what is there or not, or a blank. */
        private char labelFault(int v, int s, int label) {
            int there = pool.at(v, label);
            if (book.kinds[s] != 'o') {
                return ' ';
            }
            if (there < 0) {
                return book.mustHave(s, label) ? 'q' : ' ';
            }
            return book.itemAt(s, label) < 0 && book.isClosed(s) ? 'x' : ' ';
        }

        /** Finds the letter and the path of the remembered fault at an index below the count. */
        void seek(int index) {
            int v = value;
            int s = schema;
            left = index;
            path = 0;
            letter = ' ';
            for (int i = 0; i < MOST_SEEKING && letter == ' ' && v >= 0 && s >= 0; i++) {
                switch (book.kinds[s]) {
                    case 'u':
                    case '&':
                        s = side(v, s);
                        break;
                    case 'r':
                        letter = book.target(s) < 0 ? '0' : ' ';
                        s = book.target(s);
                        break;
                    case '0':
                    case '!':
                        letter = book.kinds[s];
                        break;
                    default:
                        int place = enter(v, s);
                        v = pool.at(v, place);
                        s = book.below(s, place);
                        break;
                }
            }
        }

        /** The part of a join in which the fault is. */
        private int side(int v, int s) {
            if (book.kinds[s] == 'u') {
                return lesserSide(v, s);
            }
            long first = counted(v, book.firsts[s]);
            if (left < first) {
                return book.firsts[s];
            }
            left -= first;
            return book.seconds[s];
        }

        /** Takes a value's own fault, or goes on to the part that has the fault; returns its place. */
        private int enter(int v, int s) {
            char own = ownFault(v, s);
            if (own != ' ') {
                if (left == 0) {
                    letter = own;
                    return NONE;
                }
                left--;
            }
            for (int i = 0; i < MOST_PARTS; i++) {
                long here = faultsAt(v, s, i);
                if (left < here) {
                    path = 10 * path + (book.kinds[s] == 'l' ? 5 : 1) + i;
                    letter = labelFault(v, s, i);
                    return i;
                }
                left -= here;
            }
            return NONE;
        }

        /** The schema for the samples, or -1, and nothing made, if there would be too many. */
        int found(int[] samples, int count) {
            int before = book.count;
            Arrays.fill(marks, 0, MOST_VALUES, 0);
            for (int i = 0; i < count && i < samples.length; i++) {
                mark(0, samples[i]);
            }
            int made = foundAt(0);
            if (made < 0) {
                book.cut(before);
            }
            return made;
        }

        private void mark(int level, int value) {
            if (level >= 0 && level < LEVELS && pool.has(value)) {
                marks[level * MOST_VALUES + value] = 1;
            }
        }

        private boolean isMarked(int level, int value, char kind) {
            return marks[level * MOST_VALUES + value] == 1 && pool.kinds[value] == kind;
        }

        private void clearLevel(int level) {
            Arrays.fill(marks, level * MOST_VALUES, (level + 1) * MOST_VALUES, 0);
        }

        private int foundAt(int level) {
            if (level + 1 >= LEVELS) {
                return NONE;
            }
            int made = 0;
            for (int i = 0; i < KINDS; i++) {
                char kind = kindAt(i);
                if (countMarked(level, kind) > 0) {
                    int schema = foundFor(level, kind);
                    if (schema < 0) {
                        return NONE;
                    }
                    kindsFound[level * KINDS + made] = schema;
                    made++;
                }
            }
            return made == 0 ? book.add('0', 0, 0, 0) : joinedUp(level, made);
        }

        private static char kindAt(int index) {
            switch (index) {
                case 0:
                    return 'z';
                case 1:
                    return 'b';
                case 2:
                    return 'n';
                case 3:
                    return 's';
                case 4:
                    return 'l';
                default:
                    return 'o';
            }
        }

        private int countMarked(int level, char kind) {
            int those = 0;
            for (int v = 0; v < pool.count; v++) {
                those += isMarked(level, v, kind) ? 1 : 0;
            }
            return those;
        }

        private int joinedUp(int level, int made) {
            int all = kindsFound[level * KINDS];
            for (int i = 1; i < made && all >= 0; i++) {
                all = book.add('u', all, kindsFound[level * KINDS + i], 0);
            }
            return all;
        }

        private int foundFor(int level, char kind) {
            switch (kind) {
                case 'n':
                    return book.add('n', lowest(level, kind), greatest(level, kind), 0);
                case 's':
                    return book.add('s', symbolBits(level), 0, 0);
                case 'l':
                    return listSchema(level);
                case 'o':
                    return recordSchema(level);
                default:
                    return book.add(kind, 0, 0, 0);
            }
        }

        private int lowest(int level, char kind) {
            int least = Integer.MAX_VALUE;
            for (int v = 0; v < pool.count; v++) {
                least = isMarked(level, v, kind) ? Math.min(least, pool.numbers[v]) : least;
            }
            return least;
        }

        private int greatest(int level, char kind) {
            int greatest = Integer.MIN_VALUE;
            for (int v = 0; v < pool.count; v++) {
                greatest = isMarked(level, v, kind) ? Math.max(greatest, pool.numbers[v]) : greatest;
            }
            return greatest;
        }

        private int symbolBits(int level) {
            int bits = 0;
            for (int v = 0; v < pool.count; v++) {
                bits |= isMarked(level, v, 's') ? 1 << pool.numbers[v] : 0;
            }
            return bits;
        }

        private int listSchema(int level) {
            clearLevel(level + 1);
            for (int v = 0; v < pool.count; v++) {
                for (int i = 0; i < MOST_PARTS && isMarked(level, v, 'l'); i++) {
                    mark(level + 1, pool.at(v, i));
                }
            }
            int least = lowest(level, 'l');
            int greatest = greatest(level, 'l');
            int item = foundAt(level + 1);
            return item < 0 ? NONE : book.add('l', item, least, greatest);
        }

        private int recordSchema(int level) {
            int all = countMarked(level, 'o');
            int musts = 0;
            for (int label = 0; label < LABELS; label++) {
                int there = markAt(level, label);
                int item = there == 0 ? NONE : foundAt(level + 1);
                if (there > 0 && item < 0) {
                    return NONE;
                }
                itemsFound[level * LABELS + label] = item;
                musts |= there == all ? 1 << label : 0;
            }
            int made = book.add('o', 1, 0, 0);
            for (int label = 0; label < LABELS && made >= 0; label++) {
                int item = itemsFound[level * LABELS + label];
                if (item >= 0) {
                    book.tell(made, label, item, (musts >> label & 1) == 1);
                }
            }
            return made;
        }

        /** Marks what is at a label of the marked records, a level below; returns how many have it. */
        private int markAt(int level, int label) {
            clearLevel(level + 1);
            int there = 0;
            for (int v = 0; v < pool.count; v++) {
                if (isMarked(level, v, 'o') && pool.at(v, label) >= 0) {
                    mark(level + 1, pool.at(v, label));
                    there++;
                }
            }
            return there;
        }
    }

    /**
     * What matters for one question: the schemas that it hangs on, and which of them take what. The record
     * schemas among them are told in bits of their own, from the first one on, and so are the list schemas.
     */
    private static final class Cone {
        /** A join is told by its number, those of both sides, and whether they and then the whole are turned round. */
        private static final int FIRST = 6;
        private static final int SECOND = 12;
        private static final int SIDES_TURNED = 18;
        private static final int TURNED = 19;

        private final Schemas book;
        private final int[] joins = new int[MOST_SCHEMAS];
        private final int[] leaves = new int[MOST_SCHEMAS];
        private final int[] lists = new int[MOST_SCHEMAS];
        private final int[] records = new int[MOST_SCHEMAS];
        /** For each label: the schemas of which a value there can be or not be, each once, and the record schemas that hang on it. */
        private final int[] items = new int[LABELS * MOST_SCHEMAS];
        private final long[] holders = new long[LABELS * MOST_SCHEMAS];
        private final int[] itemCounts = new int[LABELS];
        /** The record schemas that let any value be at a label, and those that let nothing be there. */
        private final long[] lenient = new long[LABELS];
        private final long[] lacking = new long[LABELS];
        /** The list schemas that take a list of a length or a longer one, and those that take lists of this length. */
        private final long[] alive = new long[MOST_PARTS + 1];
        private final long[] fitting = new long[MOST_PARTS + 1];
        private int joinCount;
        private int leafCount;
        private int listCount;
        private int recordCount;
        private long around;
        private long always;
        /** The schemas of which it helps to be, and those of which it helps not to be, for an answer. */
        long rising;
        long falling;

        Cone(Schemas book) {
            this.book = book;
        }

        static boolean holds(long bits, int schema) {
            return schema >= 0 && (bits >> schema & 1) == 1;
        }

        static long bit(int schema) {
            return schema < 0 ? 0 : 1L << schema;
        }

        /** Gathers what tells of how many of the first ones, and how few of the others, a value is. */
        void prepare(long helpful, long harmful) {
            long all = bit(MOST_SCHEMAS) - 1 & ~(book.always | book.never);
            rising = helpful & all;
            falling = harmful & all;
            around = rising | falling;
            sortAll();
        }

        private void sortAll() {
            joinCount = 0;
            leafCount = 0;
            listCount = 0;
            recordCount = 0;
            always = book.always;
            for (int i = 0; i < book.count; i++) {
                int s = book.order[i];
                if (holds(around, s)) {
                    sort(s);
                }
            }
            for (int length = 0; length <= MOST_PARTS; length++) {
                sortLength(length);
            }
            for (int label = 0; label < LABELS; label++) {
                sortLabel(label);
            }
        }

        private void sort(int s) {
            switch (book.kinds[s]) {
                case 'l':
                    lists[listCount] = s;
                    listCount++;
                    break;
                case 'o':
                    records[recordCount] = s;
                    recordCount++;
                    break;
                case 'u':
                    addJoin(s, book.firsts[s], book.seconds[s], 1 << SIDES_TURNED | 1 << TURNED);
                    break;
                case '&':
                    addJoin(s, book.firsts[s], book.seconds[s], 0);
                    break;
                case '!':
                    addJoin(s, book.firsts[s], book.firsts[s], 1 << SIDES_TURNED);
                    break;
                case 'r':
                    // A name that is not bound is never met, and so it does not come here.
                    addJoin(s, book.bound[book.firsts[s]], book.bound[book.firsts[s]], 0);
                    break;
                default:
                    leaves[leafCount] = s;
                    leafCount++;
                    break;
            }
        }

        private void addJoin(int s, int first, int second, int turns) {
            joins[joinCount] = s | first << FIRST | second << SECOND | turns;
            joinCount++;
        }

        private void sortLength(int length) {
            alive[length] = 0;
            fitting[length] = 0;
            for (int i = 0; i < listCount; i++) {
                int s = lists[i];
                if (book.thirds[s] >= length) {
                    alive[length] |= 1L << i;
                    fitting[length] |= book.seconds[s] <= length ? 1L << i : 0;
                }
            }
        }

        private void sortLabel(int label) {
            lenient[label] = 0;
            lacking[label] = 0;
            itemCounts[label] = 0;
            for (int i = 0; i < recordCount; i++) {
                int s = records[i];
                int item = book.itemAt(s, label);
                boolean takesAll = item < 0 ? !book.isClosed(s) : holds(book.always, item);
                lenient[label] |= takesAll ? 1L << i : 0;
                lacking[label] |= book.mustHave(s, label) ? 0 : 1L << i;
                if (item >= 0 && !holds(book.always | book.never, item)) {
                    hold(label, item, i);
                }
            }
        }

        /** Notes that one of the record schemas hangs on whether what is at a label is of a schema. */
        private void hold(int label, int item, int record) {
            int from = label * MOST_SCHEMAS;
            int place = from;
            for (int i = 0; i < itemCounts[label] && items[place] != item; i++) {
                place++;
            }
            if (place == from + itemCounts[label]) {
                items[place] = item;
                holders[place] = 0;
                itemCounts[label]++;
            }
            holders[place] |= 1L << record;
        }

        /** The schemas of its own kind that a leaf is of. */
        long ofLeaf(char kind, int number) {
            long bits = 0;
            for (int i = 0; i < leafCount; i++) {
                int s = leaves[i];
                if (book.kinds[s] == kind && book.takesNumber(s, number)) {
                    bits |= bit(s);
                }
            }
            return bits;
        }

        int breaks() {
            return 2 * leafCount + 1;
        }

        /** Numbers between two breaks are of the same schemas, so the breaks stand for all. */
        int breakAt(int index) {
            if (index <= 0 || index > 2 * leafCount) {
                return -99;
            }
            int s = leaves[(index - 1) / 2];
            if (book.kinds[s] != 'n') {
                return -99;
            }
            return index % 2 == 0 ? book.firsts[s] : Math.min(book.seconds[s] + 1, 99);
        }

        /** All schemas that a value is of, from those of its own kind. */
        long joinedUp(long own) {
            long bits = own | always;
            for (int i = 0; i < joinCount; i++) {
                int join = joins[i];
                long turn = -(join >> SIDES_TURNED & 1);
                long one = bits >> (join >> FIRST & 63) ^ turn;
                long other = bits >> (join >> SECOND & 63) ^ turn;
                bits |= ((one & other ^ join >> TURNED) & 1) << (join & 63);
            }
            return bits;
        }

        /** All schemas that a value can be of (or else: must be of) that is perhaps of these of its own kind, and of no others. */
        long bound(long own, boolean isMost) {
            long most = own | always;
            long least = always;
            for (int i = 0; i < joinCount; i++) {
                int join = joins[i];
                boolean isTurned = (join >> SIDES_TURNED & 1) == 1;
                long upper = isTurned ? ~least : most;
                long lower = isTurned ? ~most : least;
                long both = upper >> (join >> FIRST & 63) & upper >> (join >> SECOND & 63) & 1;
                long each = lower >> (join >> FIRST & 63) & lower >> (join >> SECOND & 63) & 1;
                isTurned = (join >> TURNED & 1) == 1;
                most |= (isTurned ? 1 - each : both) << (join & 63);
                least |= (isTurned ? 1 - both : each) << (join & 63);
            }
            return isMost ? most : least;
        }

        /** The list schemas that let a value be a part. */
        long asPart(long bits) {
            long those = 0;
            for (int i = 0; i < listCount; i++) {
                those |= (bits >> book.firsts[lists[i]] & 1) << i;
            }
            return those;
        }

        /** Of which schemas that matter at a label a value is: a bit for each of them. */
        long atLabel(long bits, int label) {
            long row = 0;
            int from = label * MOST_SCHEMAS;
            for (int i = 0; i < itemCounts[label]; i++) {
                row |= (bits >> items[from + i] & 1) << i;
            }
            return row;
        }

        /** The record schemas that let a value be at a label, as it is told by such bits. */
        long keyOf(long row, int label) {
            long those = lenient[label];
            int from = label * MOST_SCHEMAS;
            for (int i = 0; i < itemCounts[label]; i++) {
                those |= -(row >> i & 1) & holders[from + i];
            }
            return those;
        }

        /** Whether nothing at a label serves as well as a value that is told by such bits, if some record schemas help and some harm. */
        boolean isNothingAsGood(long row, int label, long helpful, long harmful) {
            if (helpful == harmful) {
                return false;
            }
            long key = keyOf(row, label);
            return (key & ~lacking[label] & helpful) == 0 && (lacking[label] & ~key & harmful) == 0;
        }

        /** Those of the schemas that matter at a label on which some of these record schemas hang. */
        long itemsOf(long records, int label) {
            long those = 0;
            for (int i = 0; i < itemCounts[label]; i++) {
                those |= (holders[label * MOST_SCHEMAS + i] & records) == 0 ? 0 : 1L << i;
            }
            return those;
        }

        /** The record schemas that let a label be without a value. */
        long withoutLabel(int label) {
            return lacking[label];
        }

        /** Of how many schemas a value at a label can be or not be. */
        int itemsAt(int label) {
            return itemCounts[label];
        }

        int itemAt(int label, int index) {
            return items[label * MOST_SCHEMAS + index];
        }

        int listWidth() {
            return listCount;
        }

        /** The schema for the parts of a list that one of the list schemas tells. */
        int partOf(int index) {
            return book.firsts[lists[index]];
        }

        int recordWidth() {
            return recordCount;
        }

        /** The list schemas that take a list of this length or a longer one. */
        long reaching(int length) {
            return alive[length];
        }

        /** The list schemas that take lists of this length. */
        long taking(int length) {
            return fitting[length];
        }

        /** The schemas that some list schemas, or record schemas, are, which are told in bits of their own. */
        long ofLists(long those) {
            return told(those, lists);
        }

        long ofRecords(long those) {
            return told(those, records);
        }

        private static long told(long those, int[] schemas) {
            long bits = 0;
            long rest = those;
            for (int n = 0; n < MOST_SCHEMAS && rest != 0; n++) {
                bits |= 1L << schemas[Long.numberOfTrailingZeros(rest)];
                rest &= rest - 1;
            }
            return bits;
        }

        /** Those of the list schemas, or of the record schemas, that are among these, in bits of their own. */
        long listsAmong(long bits) {
            return among(bits, lists, listCount);
        }

        long recordsAmong(long bits) {
            return among(bits, records, recordCount);
        }

        private static long among(long bits, int[] schemas, int count) {
            long those = 0;
            for (int i = 0; i < count; i++) {
                those |= (bits >> schemas[i] & 1) << i;
            }
            return those;
        }
    }

    /** What follows for one value from what it must be of and must not be of, as far as the joins tell. */
    private static final class Logic {
        static final int EITHER = 0;
        static final int LISTS = 1;
        static final int RECORDS = 2;
        private static final int ATOMS = 0;
        private static final int JOINS = 1;
        private static final int UNIONS = 2;
        private static final int MEETS = 3;
        private static final int STACK = 2 * MOST_SCHEMAS;
        private static final int WIDTH = 4;
        private static final int MOST_WAYS = 10000000;

        private final Schemas book;
        private final Cone cone;
        /** The values of size 1, by the schemas that they are of. */
        final long[] singles = new long[4 * MOST_SCHEMAS];
        int singleCount;
        /** What follows from being of a schema, and what that bars; then both for not being of it. */
        final long[] follows = new long[4 * MOST_SCHEMAS];
        /** What lists and records that are not empty are never and always of, as it is seen. */
        final long[] nevers = new long[3];
        final long[] alwayses = new long[3];
        /** The schemas that tell of the same value, in the same sense and in the contrary one. */
        final long[] senses = new long[2 * MOST_SCHEMAS];
        /** For each place: the schemas that want something there, those that something there can be against .. */
        final long[] needing = new long[PLACES];
        final long[] minding = new long[PLACES];
        /** .. and those that let nothing be there. */
        final long[] shut = new long[PLACES];
        private final long[] groups = new long[4];
        /** The ways that are left: to be of, not to be of, and what of both another way covers already. */
        private final long[] stack = new long[WIDTH * (STACK + 2)];
        private int high;
        private int kind;
        private int splits;
        /** What a value must be of and must not be of. */
        long yes;
        long no;
        /** Whether choices were left open, for there were too many ways. */
        boolean isCut;

        Logic(Schemas book) {
            this.book = book;
            cone = new Cone(book);
        }

        /** Gets ready for the schemas as they are. */
        void prepare() {
            cone.prepare(-1L, -1L);
            addSingles();
            Arrays.fill(groups, 0);
            Arrays.fill(shut, 0);
            Arrays.fill(needing, 0);
            Arrays.fill(minding, 0);
            Arrays.fill(nevers, book.never);
            Arrays.fill(alwayses, book.always);
            for (int i = 0; i < book.count; i++) {
                int s = book.order[i];
                follow(s);
                sense(s);
                for (int kind = LISTS; kind <= RECORDS; kind++) {
                    nevers[kind] |= isNever(s, kind) ? Cone.bit(s) : 0;
                    alwayses[kind] |= isAlways(s, kind) ? Cone.bit(s) : 0;
                }
            }
            nevers[EITHER] = nevers[LISTS] & nevers[RECORDS];
            alwayses[EITHER] = alwayses[LISTS] & alwayses[RECORDS];
        }

        private void follow(int s) {
            int at = 4 * s;
            long own = Cone.bit(s);
            follows[at] = own;
            follows[at + 1] = 0;
            follows[at + 2] = 0;
            follows[at + 3] = own;
            if (Cone.holds(book.never | book.always, s)) {
                return;
            }
            int a = book.kinds[s] == 'r' ? book.target(s) : book.firsts[s];
            int b = book.seconds[s];
            switch (book.kinds[s]) {
                case 'u':
                    groups[UNIONS] |= own;
                    groups[JOINS] |= own;
                    draw(at + 2, a, 2);
                    draw(at + 2, b, 2);
                    draw(at, a == b ? a : NONE, 0);
                    break;
                case '&':
                    groups[MEETS] |= own;
                    groups[JOINS] |= own;
                    draw(at, a, 0);
                    draw(at, b, 0);
                    draw(at + 2, a == b ? a : NONE, 2);
                    break;
                case '!':
                    groups[JOINS] |= own;
                    draw(at, a, 2);
                    draw(at + 2, a, 0);
                    break;
                case 'r':
                    groups[JOINS] |= own;
                    draw(at, a, 0);
                    draw(at + 2, a, 2);
                    break;
                case 'a':
                case '0':
                    break;
                default:
                    groups[ATOMS] |= own;
                    sortPlaces(s);
                    break;
            }
        }

        /** Adds what follows from being (0), or not being (2), of another schema. */
        private void draw(int at, int other, int not) {
            if (other >= 0) {
                follows[at] |= follows[4 * other + not];
                follows[at + 1] |= follows[4 * other + not + 1];
            }
        }

        /** Gathers the schemas that a schema is joined from. */
        private void sense(int s) {
            boolean isFolded = Cone.holds(book.never | book.always, s);
            long rest = isFolded ? 0 : book.joined(s);
            senses[2 * s] = isFolded ? 0 : Cone.bit(s);
            senses[2 * s + 1] = 0;
            for (int i = 0; i < MOST_PARTS && rest != 0; i++) {
                int a = Long.numberOfTrailingZeros(rest);
                rest &= rest - 1;
                int turn = book.kinds[s] == '!' ? 1 : 0;
                senses[2 * s] |= senses[2 * a + turn];
                senses[2 * s + 1] |= senses[2 * a + 1 - turn];
            }
        }

        /** Sorts a schema of lists or records by what it tells of the places in them. */
        private void sortPlaces(int s) {
            long own = Cone.bit(s);
            if (book.kinds[s] == 'l') {
                needing[IN_LIST] |= book.seconds[s] > 0 ? own : 0;
                minding[IN_LIST] |= own;
            }
            for (int label = 0; label < LABELS && book.kinds[s] == 'o'; label++) {
                int item = book.itemAt(s, label);
                boolean isBarred = (book.barred(s) >> label & 1) == 1;
                shut[label] |= isBarred || Cone.holds(book.never, item) ? own : 0;
                needing[label] |= book.mustHave(s, label) ? own : 0;
                minding[label] |= isBarred || (item >= 0 && !Cone.holds(book.always, item)) ? own : 0;
            }
        }

        private void addSingles() {
            singleCount = 0;
            addSingle(cone.ofLeaf('z', 0));
            addSingle(cone.ofLeaf('b', 0));
            addSingle(cone.ofLists(cone.taking(0)));
            addSingle(cone.ofRecords(cone.withoutLabel(0) & cone.withoutLabel(1) & cone.withoutLabel(2) & cone.withoutLabel(3)));
            for (int symbol = 0; symbol <= 9; symbol++) {
                addSingle(cone.ofLeaf('s', symbol));
            }
            for (int i = 0; i < cone.breaks(); i++) {
                addSingle(cone.ofLeaf('n', cone.breakAt(i)));
            }
        }

        private void addSingle(long own) {
            long bits = cone.joinedUp(own);
            for (int i = 0; i < singleCount; i++) {
                if (singles[i] == bits) {
                    return;
                }
            }
            if (singleCount < singles.length) {
                singles[singleCount] = bits;
                singleCount++;
            }
        }

        /** Whether a value of size 1 is of all these and of none of those. */
        boolean hasSingle(long must, long mustNot) {
            for (int i = 0; i < singleCount; i++) {
                if (((must & ~singles[i]) | (mustNot & singles[i])) == 0) {
                    return true;
                }
            }
            return false;
        }

        /** All schemas that a list or record is of, from those of its own kind. */
        long joinedUp(long own) {
            return cone.joinedUp(own);
        }

        /** Whether no list, or no record, but perhaps the empty one is of a schema, by how it is written. */
        private boolean isNever(int s, int kind) {
            long never = nevers[kind];
            int a = book.firsts[s];
            switch (book.kinds[s]) {
                case 'l':
                    return kind == RECORDS || book.thirds[s] == 0 || Cone.holds(book.never, a);
                case 'o':
                    return kind == LISTS || book.barred(s) == ALL_PLACES;
                case 'u':
                    return Cone.holds(never, a) && Cone.holds(never, book.seconds[s]);
                case '&':
                    return Cone.holds(never, a) || Cone.holds(never, book.seconds[s]);
                case '!':
                    return Cone.holds(alwayses[kind], a);
                case 'r':
                    return Cone.holds(never, book.target(s));
                case 'a':
                case '0':
                    return false;
                default:
                    return true;
            }
        }

        /** Whether each list, or each record, but perhaps the empty one is of a schema, by how it is written. */
        private boolean isAlways(int s, int kind) {
            long always = alwayses[kind];
            int a = book.firsts[s];
            switch (book.kinds[s]) {
                case 'l':
                    return kind == LISTS && book.seconds[s] <= 1 && book.thirds[s] == MOST_PARTS
                            && Cone.holds(book.always, a);
                case 'o':
                    return kind == RECORDS && (book.needed(s) | book.barred(s)) == 0
                            && (book.nested(s) & ~book.always) == 0;
                case 'u':
                    return Cone.holds(always, a) || Cone.holds(always, book.seconds[s]);
                case '&':
                    return Cone.holds(always, a) && Cone.holds(always, book.seconds[s]);
                case '!':
                    return Cone.holds(nevers[kind], a);
                case 'r':
                    return Cone.holds(always, book.target(s));
                default:
                    return false;
            }
        }

        /** Adds all that follows, if the value is never and always of these; false if it can't be. */
        boolean ease(long never, long always) {
            long knownYes = 0;
            long knownNo = 0;
            boolean grown = true;
            for (int pass = 0; pass <= 2 * MOST_SCHEMAS && grown; pass++) {
                long freshYes = yes & groups[JOINS] & ~knownYes;
                long freshNo = no & groups[JOINS] & ~knownNo;
                for (int i = 0; i < 2 * MOST_SCHEMAS && (freshYes | freshNo) != 0; i++) {
                    int at = freshYes != 0 ? 4 * Long.numberOfTrailingZeros(freshYes)
                            : 4 * Long.numberOfTrailingZeros(freshNo) + 2;
                    freshNo &= freshYes != 0 ? -1L : freshNo - 1;
                    freshYes &= freshYes - 1;
                    yes |= follows[at];
                    no |= follows[at + 1];
                }
                if (((yes & (no | never)) | (no & always)) != 0) {
                    return false;
                }
                knownYes = yes;
                knownNo = no;
                yes |= drawnFrom(yes & groups[UNIONS], no | never);
                no |= drawnFrom(no & groups[MEETS], yes | always);
                grown = yes != knownYes || no != knownNo;
            }
            return true;
        }

        /** Of each choice one side of which is ruled out, the other side. */
        private long drawnFrom(long choices, long ruledOut) {
            long drawn = 0;
            long rest = choices;
            for (int i = 0; i < MOST_SCHEMAS && rest != 0; i++) {
                int s = Long.numberOfTrailingZeros(rest);
                rest &= rest - 1;
                drawn |= (ruledOut >> book.firsts[s] & 1) << book.seconds[s];
                drawn |= (ruledOut >> book.seconds[s] & 1) << book.firsts[s];
            }
            return drawn;
        }

        /** Those that tell of a value of their own kind, among what it must be of. */
        long those() {
            return yes & groups[ATOMS];
        }

        /** Those that tell of a value of their own kind, among what it must not be of. */
        long others() {
            return no & groups[ATOMS];
        }

        /** The schemas that tell of a value of which these and those tell, in the sense of these (0), or of those (1). */
        long sensed(long these, long those, int sense) {
            long all = 0;
            for (int s = 0; s < book.count; s++) {
                all |= (these >> s & 1) == 1 ? senses[2 * s + sense] : 0;
                all |= (those >> s & 1) == 1 ? senses[2 * s + 1 - sense] : 0;
            }
            return all;
        }

        /** Starts the ways in which a list or a record that is not empty, and is never of some, can be as is asked for. */
        void open(long must, long mustNot, int ofKind, long never, int mostSplits) {
            kind = ofKind;
            splits = mostSplits;
            isCut = false;
            high = 0;
            push(must, mustNot, never, 0);
        }

        /** Goes to the next way, told by schemas of its kind alone; it leaves out what those ahead cover. False if there is none. */
        boolean next() {
            for (int i = 0; i < MOST_WAYS && high > 0; i++) {
                high--;
                yes = stack[WIDTH * high];
                no = stack[WIDTH * high + 1];
                long never = stack[WIDTH * high + 2];
                long always = stack[WIDTH * high + 3];
                if (!ease(nevers[kind] | never, alwayses[kind] | always)) {
                    continue;
                }
                // A union that it must be of, or a meet that it must not be of, while neither side is seen to be so.
                long unions = undecided(yes & groups[UNIONS], yes | alwayses[kind]);
                long open = unions != 0 ? unions : undecided(no & groups[MEETS], no | nevers[kind]);
                if (open == 0) {
                    return true;
                }
                if (splits <= 0 || high >= STACK) {
                    isCut = true;
                    return true;
                }
                splits--;
                int s = Long.numberOfTrailingZeros(open);
                long first = Cone.bit(book.firsts[s]);
                long second = Cone.bit(book.seconds[s]);
                if (unions != 0) {
                    push(yes | second, no, never | first, always);
                    push(yes | first, no, never, always);
                } else {
                    push(yes, no | second, never, always | first);
                    push(yes, no | first, never, always);
                }
            }
            return false;
        }

        private void push(long must, long mustNot, long never, long always) {
            stack[WIDTH * high] = must;
            stack[WIDTH * high + 1] = mustNot;
            stack[WIDTH * high + 2] = never;
            stack[WIDTH * high + 3] = always;
            high++;
        }

        /** The choices of which neither side is decided. */
        private long undecided(long choices, long decided) {
            long open = choices;
            long rest = choices;
            for (int i = 0; i < MOST_SCHEMAS && rest != 0; i++) {
                int s = Long.numberOfTrailingZeros(rest);
                rest &= rest - 1;
                open &= ~((decided >> book.firsts[s] & 1 | decided >> book.seconds[s] & 1) << s);
            }
            return open;
        }
    }

    /**
     * The words in which all rows of a climb stand; when a climb begins, all of them are free. Rows have
     * parts of them, and so have marks and slots by which rows are found. It also sifts what rows of two
     * tables have together, so that what was seen is seldom seen again.
     */
    private static final class Room {
        static final int CHUNK = 512;
        /** How many rows are joined with each other at once. */
        static final int LANE = 1024;
        /** The most bits for which there can be a mark, and a count, for each row. */
        static final int MOST_MARKED = 26;
        private static final int MOST_COUNTED = 20;
        private static final int MOST_SPLITS = 4;
        static final long SPREAD = 0x9E3779B97F4A7C15L;
        private static final int[] SIZES = {1 << 14, 1 << 18, 18 << 18};
        private static final int WORD_BITS = 6;
        private static final int FEW = 256;
        private static final int MANY = 1 << 17;
        private static final int KINDS = 3;

        long[] words = new long[SIZES[0]];
        private int used;
        private int spare;
        final long[] lane = new long[LANE];
        /** Up to where rows were put in the lane. */
        int loadedTo;
        /** What came through the sieve, of what was joined last. */
        final long[] fresh = new long[LANE];
        /** For lists and for records: where the sieve is, how many words it has, of how many bits rows are, and what came through. */
        private final int[] sieves = new int[KINDS];
        private final int[] meshes = new int[KINDS];
        private final int[] widths = new int[KINDS];
        private final int[] passed = new int[KINDS];
        /** Where there is a count for all rows of some few bits, for how many bits there is room, and which bits these are, or -1. */
        private int ground;
        private int groundBits;
        private long spots;
        private long fixed;
        /** Which rows of two tables are to be joined: from and up to, of the one and of the other; and what they all must have. */
        final int[] ranges = new int[4 * (MOST_SIZE + 3)];
        int rangesEnd;
        long need;
        /** How many rows a table may have, how many of one size, and whether better ones can take the place of others. */
        int rows;
        int quota;
        boolean replaces;

        /** Frees all, and starts sieves for lists and records of so many bits. */
        void clear(int listWidth, int recordWidth) {
            used = 0;
            spare = NONE;
            groundBits = NONE;
            spots = NONE;
            for (int kind = Logic.LISTS; kind <= Logic.RECORDS; kind++) {
                widths[kind] = kind == Logic.LISTS ? listWidth : recordWidth;
                passed[kind] = 0;
                meshes[kind] = FEW;
                sieves[kind] = used;
                used += FEW;
                Arrays.fill(words, sieves[kind], used, isExact(kind) ? 0 : NONE);
            }
        }

        /** Whether the sieve has a mark for each row; otherwise it has some of the rows that came last. */
        private boolean isExact(int kind) {
            return widths[kind] <= MOST_MARKED && meshes[kind] >= 1 << Math.max(0, widths[kind] - WORD_BITS);
        }

        /** How many words have a mark for each row of so many bits. */
        static int marksFor(int width) {
            return 1 << Math.max(0, width - WORD_BITS);
        }

        /** Makes the sieve finer if much comes through. */
        void refine(int kind) {
            int size = widths[kind] <= MOST_MARKED ? marksFor(widths[kind]) : MANY;
            if (meshes[kind] >= size || passed[kind] < size / 4) {
                return;
            }
            int finer = take(size);
            if (finer >= 0) {
                give(sieves[kind], meshes[kind]);
                sieves[kind] = finer;
                meshes[kind] = size;
                Arrays.fill(words, finer, finer + size, isExact(kind) ? 0 : NONE);
            }
        }

        /** Whether it is known that a row came through the sieve. */
        boolean hasSifted(long row, int kind) {
            return isExact(kind) ? (words[sieves[kind] + (int) (row >>> WORD_BITS)] >>> row & 1) == 1
                    : words[sieves[kind] + ((int) (row * SPREAD >>> 32) & meshes[kind] - 1)] == row;
        }

        /** The place of so many free words in a row, or -1. */
        int take(int size) {
            if (size == CHUNK && spare >= 0) {
                int taken = spare;
                spare = (int) words[taken];
                return taken;
            }
            for (int i = 1; i < SIZES.length && used + size > words.length; i++) {
                if (words.length < SIZES[i]) {
                    words = Arrays.copyOf(words, SIZES[i]);
                }
            }
            if (used + size > words.length) {
                return NONE;
            }
            used += size;
            return used - size;
        }

        /** Frees words. */
        void give(int place, int size) {
            for (int i = 0; i + CHUNK <= size; i += CHUNK) {
                words[place + i] = spare;
                spare = place + i;
            }
        }

        /** Makes ready for counts of all rows of these bits, which have others all; false if there is no room. */
        boolean takeGround(long bits, long always) {
            int width = Math.min(Long.bitCount(bits), MOST_COUNTED);
            if (Long.bitCount(bits) > MOST_COUNTED + MOST_SPLITS) {
                return false;
            }
            if (width > groundBits) {
                int place = take(2 << width);
                if (place < 0) {
                    return false;
                }
                give(ground, groundBits < 0 ? 0 : 2 << groundBits);
                ground = place;
                groundBits = width;
            }
            spots = bits;
            fixed = always;
            return true;
        }

        /** Whether what rows of two tables have together is told by counts. */
        boolean isCounted() {
            return spots != NONE;
        }

        /** Forgets the counts. */
        void leaveGround() {
            spots = NONE;
        }

        /** How many rows are counted at once. */
        int groundSize() {
            return 1 << Math.min(Long.bitCount(spots), MOST_COUNTED);
        }

        /** In how many parts rows are counted: by each of the top bits there are three, see Climb.count. */
        int groundParts() {
            int parts = 1;
            for (int i = MOST_COUNTED; i < Long.bitCount(spots); i++) {
                parts *= 3;
            }
            return parts;
        }

        /** The bits that are too many to be counted at once. */
        long topSpots() {
            long top = spots;
            for (int i = 0; i < MOST_COUNTED; i++) {
                top &= top - 1;
            }
            return top;
        }

        void clearGround() {
            Arrays.fill(words, ground, ground + 2 * groundSize(), 0);
        }

        /** Puts a row on the ground: on its first or second half. */
        void lay(long row, int half) {
            int place = 0;
            long rest = spots;
            for (int i = 0; i < MOST_COUNTED && rest != 0; i++) {
                place |= (int) (row >> Long.numberOfTrailingZeros(rest) & 1) << i;
                rest &= rest - 1;
            }
            words[ground + half * groundSize() + place] = 1;
        }

        /**
         * Counts for each row of how many pairs of the first and the second half it is what both have: counts
         * of those that have all its bits are multiplied, and then those that have more bits are taken away.
         */
        void countPairs() {
            int size = groundSize();
            for (int step = 1; step < size; step *= 2) {
                for (int from = 0; from < 2 * size; from += 2 * step) {
                    for (int i = ground + from; i < ground + from + step; i++) {
                        words[i] += words[i + step];
                    }
                }
            }
            for (int i = ground; i < ground + size; i++) {
                words[i] *= words[i + size];
            }
            for (int step = 1; step < size; step *= 2) {
                for (int from = 0; from < size; from += 2 * step) {
                    for (int i = ground + from; i < ground + from + step; i++) {
                        words[i] -= words[i + step];
                    }
                }
            }
        }

        /** Puts rows that were counted in the lane, those from a place on, all parts being one behind the other; returns how many. */
        int load(int from, int to) {
            int loaded = 0;
            int size = groundSize();
            loadedTo = Math.min(to, from + LANE);
            for (int i = from; i < loadedTo; i++) {
                if (words[ground + (i & size - 1)] != 0) {
                    long row = fixed;
                    long rest = spots;
                    int part = i / size;
                    for (int bit = 0; bit < MOST_COUNTED + MOST_SPLITS && rest != 0; bit++) {
                        boolean has = bit < MOST_COUNTED ? (i >> bit & 1) == 1 : part % 3 == 0;
                        row |= has ? rest & -rest : 0;
                        part /= bit < MOST_COUNTED ? 1 : 3;
                        rest &= rest - 1;
                    }
                    lane[loaded] = row;
                    loaded++;
                }
            }
            return loaded;
        }

        /** Joins a row with those in the lane; returns how many came through the sieve. */
        int sift(long key, int count, int kind) {
            int found = 0;
            int from = sieves[kind];
            int last = meshes[kind] - 1;
            boolean isExact = isExact(kind);
            for (int i = 0; i < count && i < LANE; i++) {
                long row = key & lane[i];
                int place = from + (isExact ? (int) (row >>> WORD_BITS) : (int) (row * SPREAD >>> 32) & last);
                long word = words[place];
                if (isExact ? (word >>> row & 1) == 0 : word != row) {
                    words[place] = isExact ? word | 1L << row : row;
                    fresh[found] = row;
                    found++;
                }
            }
            passed[kind] += found;
            return found;
        }
    }

    /** Rows of bits, each once, in the order of the sizes with which they came. */
    private static final class Table {
        private static final int LEAST_SLOTS = 64;
        private static final int GROWTH = 4;
        private static final int LOOKS = 64;
        private static final int CHUNK_BITS = 9;
        private static final int IN_CHUNK = Room.CHUNK - 1;

        private final Room room;
        /** For the rows of a label, what they tell of the record schemas; the first one tells that nothing is there. */
        private final Cone cone;
        private final int label;
        /** Where in the room the rows stand, and of how many bits they are. */
        private int[] chunks = new int[16];
        private int width;
        /** Where the rows of each size start, and the greatest size that has some. */
        private final int[] starts = new int[MOST_SIZE + 2];
        private int top;
        /** The bits that it helps to have, and those that it helps not to have. */
        long more;
        long fewer;
        /** Where the rows start that came since rows were closed: others may still take their place. */
        int opened;
        /** How many slots are taken: more than there are rows, if rows took the place of others. */
        private int taken;
        /** Where the slots are that tell the rows, and how many; none if there is a mark for each row there can be. */
        private int slots;
        private int slotCount;
        /** Whether the first rows may make room for the last ones, and how many did. */
        boolean loses;
        int lost;
        /** Whether a row was wanted that was lost. */
        boolean isLost;
        int count;
        /** How many of the rows were passed on. */
        int fed;
        /** Whether a row found no room, or there was no time for all. */
        boolean spilled;
        /** Whether a row was left out, for there were enough of its size. */
        boolean isThin;

        Table(Room room, Cone cone, int label) {
            this.room = room;
            this.cone = cone;
            this.label = label;
        }

        /** Empties the table for rows of so many bits, of which some help and some harm. */
        void start(int bits, long rising, long falling) {
            width = bits;
            more = rising;
            fewer = falling;
            count = 0;
            taken = 0;
            opened = 0;
            fed = 0;
            lost = 0;
            isLost = false;
            top = NONE;
            starts[0] = 0;
            isThin = false;
            loses = false;
            slotCount = width <= Room.MOST_MARKED && Room.marksFor(width) <= LEAST_SLOTS / 2 ? 0 : LEAST_SLOTS;
            slots = room.take(LEAST_SLOTS / 2);
            spilled = slots < 0;
            if (!spilled) {
                Arrays.fill(room.words, slots, slots + LEAST_SLOTS / 2, 0);
            }
        }

        /** Starts the rows of a label with one that tells that nothing is there, which has no mark and no slot. */
        void addNothing() {
            count = 1;
            chunks[0] = room.take(Room.CHUNK);
            spilled |= chunks[0] < 0;
        }

        /** All rows from now on count as later ones. */
        void closeRound() {
            opened = count;
        }

        /** All rows from now on are of a greater size. */
        void close(int size) {
            top = count > starts[size] ? size : top;
            starts[size + 1] = count;
            opened = count;
        }

        /** The first row of a size that is closed; those of the size above start behind its last one. */
        int startOf(int size) {
            return starts[size];
        }

        int top() {
            return top;
        }

        /** What a row tells of the record schemas, or of the list schemas. */
        long keyAt(int place) {
            if (label >= 0 && place == 0) {
                return cone.withoutLabel(label);
            }
            long row = room.words[chunks[place >> CHUNK_BITS] + (place & IN_CHUNK)];
            return label < 0 ? row : cone.keyOf(row, label);
        }

        /** Puts what some rows tell, as far as a mask shows it, and if it is all that is needed, in the lane; returns how many. */
        int load(int from, int to, long mask) {
            int loaded = 0;
            int i = from;
            for (; i < to && loaded < Room.LANE; i++) {
                long key = keyAt(i) & mask;
                if ((room.need & ~key) == 0) {
                    room.lane[loaded] = key;
                    loaded++;
                }
            }
            room.loadedTo = i;
            return loaded;
        }

        /** Joins what a row tells with those in the lane; returns how many of them are not seen at once to be known. */
        int sift(long key, int loaded) {
            int found = 0;
            boolean isMarked = slotCount == 0;
            for (int i = 0; i < loaded; i++) {
                long row = key & room.lane[i];
                if (!isMarked || (room.words[slots + (int) (row >>> 6)] >>> row & 1) == 0) {
                    room.fresh[found] = row;
                    found++;
                }
            }
            return found;
        }

        /** Puts a row in, if no other one serves as well; returns whether it did. */
        boolean insert(long row) {
            if (spilled) {
                return false;
            }
            int slot = slotCount > 0 ? slotOf(row) : NONE;
            int told = slot < 0 ? slots + (int) (row >>> 6) : slots + (slot >> 1);
            boolean isKnown = slot < 0 ? (room.words[told] >>> row & 1) == 1 : (int) (room.words[told] >>> ((slot & 1) << 5)) > 0;
            if (isKnown || isOutdone(row)) {
                return false;
            }
            if (count - opened >= room.quota) {
                isThin = true;
                return false;
            }
            if (slotCount > 0 && 2 * taken >= slotCount) {
                int before = slots;
                int words = slotCount / 2;
                boolean isMarked = width <= Room.MOST_MARKED && Room.marksFor(width) <= GROWTH * words;
                int size = isMarked ? Room.marksFor(width) : GROWTH * words;
                widen(room.take(size), size, isMarked);
                room.give(before, spilled ? 0 : words);
            }
            int place = room.replaces ? outdone(row) : NONE;
            if (place < 0) {
                place = count;
                if ((count & IN_CHUNK) == 0) {
                    hold(room.take(Room.CHUNK));
                }
                spilled |= count >= room.rows;
                count += spilled ? 0 : 1;
            }
            if (spilled) {
                return false;
            }
            room.words[chunks[place >> CHUNK_BITS] + (place & IN_CHUNK)] = row;
            if (slotCount == 0) {
                room.words[slots + (int) (row >>> 6)] |= 1L << row;
            } else {
                slot = slotOf(row);
                room.words[slots + (slot >> 1)] |= (long) (place + 1) << ((slot & 1) << 5);
                taken++;
            }
            return true;
        }

        /** Takes words for the next rows; if there are none, they may take the place of the first ones. */
        private void hold(int place) {
            int chunk = count >> CHUNK_BITS;
            if (chunk >= chunks.length) {
                chunks = Arrays.copyOf(chunks, GROWTH * chunks.length);
            }
            chunks[chunk] = place;
            if (place < 0 && loses && slotCount == 0 && lost + 2 * Room.CHUNK <= count) {
                chunks[chunk] = chunks[lost >> CHUNK_BITS];
                lost += Room.CHUNK;
            }
            spilled |= chunks[chunk] < 0;
        }

        /** One of the last rows that were not joined which a row outdoes, or -1. */
        private int outdone(long row) {
            if (more == fewer || (slotCount > 0 && 2 * taken >= slotCount)) {
                return NONE;
            }
            for (int i = count - 1; i >= opened && i >= count - LOOKS; i--) {
                long other = room.words[chunks[i >> CHUNK_BITS] + (i & IN_CHUNK)];
                if (((other & ~row & more) | (row & ~other & fewer)) == 0) {
                    return i;
                }
            }
            return NONE;
        }

        /** Looks at a few rows only, the first and the last ones: a row that others outdo costs time and nothing else. */
        private boolean isOutdone(long row) {
            if (more == fewer) {
                return false;
            }
            int first = Math.max(lost, label < 0 ? 0 : 1);
            int looks = Math.min(count, first + LOOKS);
            for (int i = first; i < looks; i++) {
                long other = room.words[chunks[i >> CHUNK_BITS] + (i & IN_CHUNK)];
                if (((row & ~other & more) | (other & ~row & fewer)) == 0) {
                    return true;
                }
            }
            for (int i = Math.max(looks, count - LOOKS); i < count; i++) {
                long other = room.words[chunks[i >> CHUNK_BITS] + (i & IN_CHUNK)];
                if (((row & ~other & more) | (other & ~row & fewer)) == 0) {
                    return true;
                }
            }
            return false;
        }

        /** The slot that a row has or would get; there are always free ones. */
        private int slotOf(long row) {
            int mask = slotCount - 1;
            int slot = (int) (row * Room.SPREAD >>> 32) & mask;
            for (int i = 0; i < slotCount; i++) {
                int place = (int) (room.words[slots + (slot >> 1)] >>> ((slot & 1) << 5)) - 1;
                if (place < 0 || room.words[chunks[place >> CHUNK_BITS] + (place & IN_CHUNK)] == row) {
                    return slot;
                }
                slot = (slot + 1) & mask;
            }
            return slot;
        }

        /** Takes other words to tell which rows there are: more slots, or a mark for each row there can be. */
        private void widen(int place, int size, boolean isMarked) {
            spilled |= place < 0;
            if (spilled) {
                return;
            }
            slots = place;
            slotCount = isMarked ? 0 : 2 * size;
            Arrays.fill(room.words, slots, slots + size, 0);
            taken = 0;
            for (int i = label < 0 ? 0 : 1; i < count; i++) {
                long row = room.words[chunks[i >> CHUNK_BITS] + (i & IN_CHUNK)];
                if (slotCount == 0) {
                    room.words[slots + (int) (row >>> 6)] |= 1L << row;
                } else {
                    int slot = (int) (row * Room.SPREAD >>> 32) & slotCount - 1;
                    for (int k = 0; k < slotCount && (int) (room.words[slots + (slot >> 1)] >>> ((slot & 1) << 5)) > 0; k++) {
                        slot = (slot + 1) & slotCount - 1;
                    }
                    room.words[slots + (slot >> 1)] |= (long) (i + 1) << ((slot & 1) << 5);
                    taken++;
                }
            }
        }

        /** The first row, but for those of size 1, that has all these bits and none of those and is of a smaller size than this, or -1. */
        int firstOf(long has, long lacks, int below) {
            int end = starts[Math.max(0, Math.min(below, top + 1))];
            for (int i = starts[Math.max(0, Math.min(2, top + 1))]; i < end; i++) {
                long row = room.words[chunks[i >> CHUNK_BITS] + (i & IN_CHUNK)];
                if (((has & ~row) | (lacks & row)) == 0) {
                    return i;
                }
            }
            return NONE;
        }

        long rowAt(int place) {
            return room.words[chunks[place >> CHUNK_BITS] + (place & IN_CHUNK)];
        }

        /** The size with which a row came. */
        int sizeOf(int place) {
            int size = 0;
            for (int step = 1 << 9; step > 0; step /= 2) {
                size += size + step <= top && starts[size + step] <= place ? step : 0;
            }
            return size;
        }

        /** How many words of marks there are, from which all rows can be told; 0 if there are none. */
        int markWords() {
            return slotCount == 0 ? Room.marksFor(width) : 0;
        }

        long marksAt(int word) {
            return room.words[slots + word];
        }

        /** The first row that is not of a smaller size than this, or is of none that is closed. */
        int behind(int size) {
            return starts[Math.max(0, Math.min(size, top + 1))];
        }
    }

    /**
     * What each part of an answer must be of and must not be of, by the place where it stands: at a label,
     * or in a list. It is spread from the question down. Of what can be asked at a place all is kept, or of
     * too much two things become what both have in common, so that no part of the smallest answer is left out.
     * Where nothing can be wanted, nothing is: without it the answer would be smaller.
     */
    private static final class Demands {
        static final int MOST_SPREADS = 1000;
        /** How many things are asked at a place, and where the question itself stands. */
        private static final int MOST = 8;
        private static final int ROOT = PLACES * MOST;
        private static final int MOST_SPLITS = 64;
        private static final int MOST_MORE = 4;

        private final Schemas book;
        private final Logic logic;
        private final long[] wants = new long[ROOT + 1];
        private final long[] misses = new long[ROOT + 1];
        /** What else such a part may have to be of, and not to be of. */
        private final long[] mays = new long[ROOT + 1];
        private final long[] mayNots = new long[ROOT + 1];
        private final boolean[] isFresh = new boolean[ROOT + 1];
        private final int[] counts = new int[PLACES];
        private long want;
        private long miss;
        private long may;
        private long mayNot;
        /** How many things that are asked were not spread to the parts. */
        int fresh;
        /** The places, as bits, where each value of size 1 can stand. */
        int singles;
        /** The schemas of which it can help to be, and those of which it can help not to be. */
        long helpful;
        long harmful;

        Demands(Schemas book, Logic logic) {
            this.book = book;
            this.logic = logic;
        }

        /** Starts with a value that must be of all these and of none of those. */
        void start(long must, long mustNot) {
            Arrays.fill(counts, 0);
            Arrays.fill(isFresh, false);
            singles = 0;
            wants[ROOT] = must;
            misses[ROOT] = mustNot;
            for (int s = 0; s < book.count; s++) {
                int not = Cone.holds(must, s) ? 0 : 2;
                if (not == 0 || Cone.holds(mustNot, s)) {
                    wants[ROOT] |= logic.follows[4 * s + not];
                    misses[ROOT] |= logic.follows[4 * s + not + 1];
                }
            }
            mays[ROOT] = logic.sensed(must, mustNot, 0);
            mayNots[ROOT] = logic.sensed(must, mustNot, 1);
            helpful = mays[ROOT];
            harmful = mayNots[ROOT];
            isFresh[ROOT] = true;
            fresh = 1;
        }

        /** One of the things that were not spread. */
        private int nextFresh() {
            int next = ROOT;
            for (int i = ROOT - 1; i >= 0 && !isFresh[ROOT]; i--) {
                next = isFresh[i] ? i : next;
            }
            return next;
        }

        private void freshen(int at) {
            fresh += isFresh[at] ? 0 : 1;
            isFresh[at] = true;
        }

        /** Spreads one thing that is asked: what all ways in which it can be met ask of a part is asked of this part. */
        void spread() {
            int at = nextFresh();
            isFresh[at] = false;
            fresh--;
            for (int place = 0; place < PLACES; place++) {
                long told = (mays[at] & logic.needing[place]) | (mayNots[at] & logic.minding[place]);
                if (told == 0) {
                    continue;
                }
                want = -1L;
                miss = -1L;
                int kind = place == IN_LIST ? Logic.LISTS : Logic.RECORDS;
                logic.open(wants[at], misses[at], kind, logic.shut[place], MOST_SPLITS);
                for (int way = 0; way <= MOST_SPLITS && logic.next(); way++) {
                    leaveCommon(place);
                }
                want &= ~book.always;
                miss &= ~book.never;
                if (canBe(want, miss)) {
                    may = itemsOf(mays[at], place);
                    mayNot = itemsOf(mayNots[at], place);
                    askAt(place);
                }
            }
        }

        /** Ends the spreading; if it did not come to its end, each value can stand everywhere. */
        void end() {
            for (int place = 0; place < PLACES && fresh != 0; place++) {
                counts[place] = 1;
                wants[place * MOST] = 0;
                misses[place * MOST] = 0;
                helpful = -1L;
                harmful = -1L;
            }
            // A value counts as being of none of what isn't looked at, which would be wrong for what it must not be of.
            long before = 0;
            for (int pass = 0; pass < MOST_SCHEMAS && harmful != before; pass++) {
                before = harmful;
                long items = 0;
                for (int s = 0; s < book.count; s++) {
                    items |= (before >> s & 1) == 1 ? book.nested(s) : 0;
                }
                helpful |= logic.sensed(0, items, 0);
                harmful |= logic.sensed(0, items, 1);
            }
        }

        /** Whether a value of these schemas can stand at a place in an answer. */
        boolean serves(int place, long bits) {
            for (int i = place * MOST; i < place * MOST + counts[place]; i++) {
                if (((wants[i] & ~bits) | (misses[i] & bits)) == 0) {
                    return true;
                }
            }
            return false;
        }

        /** Whether a value that can be of some schemas, and must be of others, can stand somewhere in an answer. */
        boolean canServe(long most, long least) {
            for (int place = 0; place < PLACES; place++) {
                for (int i = place * MOST; i < place * MOST + counts[place]; i++) {
                    if (((wants[i] & ~most) | (misses[i] & least)) == 0) {
                        return true;
                    }
                }
            }
            return ((wants[ROOT] & ~most) | (misses[ROOT] & least)) == 0;
        }

        /** The schemas of which all values must be that can stand somewhere or be the answer. */
        long needed() {
            long needed = wants[ROOT];
            for (int place = 0; place < PLACES; place++) {
                for (int i = place * MOST; i < place * MOST + counts[place]; i++) {
                    needed &= wants[i];
                }
            }
            return needed;
        }

        private boolean canBe(long wanted, long missed) {
            return ((wanted & (missed | book.never)) | (missed & book.always)) == 0;
        }

        /** Leaves of what is wanted and missed at a place what this way asks for as well, if it can be. */
        private void leaveCommon(int place) {
            long wanted = 0;
            long missed = 0;
            long rest = logic.those();
            for (int n = 0; n < MOST_SCHEMAS && rest != 0; n++) {
                int item = book.below(Long.numberOfTrailingZeros(rest), place);
                rest &= rest - 1;
                wanted |= item < 0 ? 0 : logic.follows[4 * item];
                missed |= item < 0 ? 0 : logic.follows[4 * item + 1];
            }
            rest = place == IN_LIST ? 0 : logic.others();
            for (int n = 0; n < MOST_SCHEMAS && rest != 0; n++) {
                int s = Long.numberOfTrailingZeros(rest);
                rest &= rest - 1;
                // Nothing else can keep the value from being of it.
                if (book.tells(s) == 1 << place && book.barred(s) == 0) {
                    int item = book.below(s, place);
                    wanted |= logic.follows[4 * item + 2];
                    missed |= logic.follows[4 * item + 3];
                }
            }
            if (canBe(wanted, missed)) {
                want &= wanted | book.always;
                miss &= missed | book.never;
            }
        }

        /** The schemas of what is at a place, of all these. */
        private long itemsOf(long schemas, int place) {
            long items = 0;
            for (int s = 0; s < book.count; s++) {
                boolean isSuch = book.kinds[s] == (place == IN_LIST ? 'l' : 'o') && (schemas >> s & 1) == 1;
                items |= isSuch ? Cone.bit(book.below(s, place)) : 0;
            }
            return items;
        }

        /**
         * Asks at a place for what is wanted and missed there. Where a value of size 1 would do for that, and
         * for all that it may not have to be, a greater value must be of something else, too.
         */
        private void askAt(int place) {
            singles |= 1 << place;
            helpful |= logic.sensed(may, mayNot, 0);
            harmful |= logic.sensed(may, mayNot, 1);
            long more = may & ~want & ~book.always;
            if (Long.bitCount(more) > MOST_MORE || !logic.hasSingle(want, miss | mayNot)) {
                ask(place, want, miss);
                return;
            }
            for (int n = 0; n < MOST_MORE && more != 0; n++) {
                int s = Long.numberOfTrailingZeros(more);
                more &= more - 1;
                long wanted = want | (logic.follows[4 * s] & ~book.always);
                long missed = miss | (logic.follows[4 * s + 1] & ~book.never);
                if (canBe(wanted, missed)) {
                    ask(place, wanted, missed);
                }
            }
        }

        /** Adds what is asked at a place, if that is not asked already. */
        private void ask(int place, long wanted, long missed) {
            long yes = logic.sensed(may, mayNot, 0);
            long no = logic.sensed(may, mayNot, 1);
            int from = place * MOST;
            int into = from + counts[place];
            for (int i = from; i < into; i++) {
                boolean isAsked = ((wants[i] & ~wanted) | (misses[i] & ~missed)) == 0;
                boolean asksMore = ((wanted & ~wants[i]) | (missed & ~misses[i])) == 0;
                if (isAsked || asksMore) {
                    if (!isAsked || ((yes & ~mays[i]) | (no & ~mayNots[i])) != 0) {
                        freshen(i);
                    }
                    wants[i] &= wanted;
                    misses[i] &= missed;
                    mays[i] |= yes;
                    mayNots[i] |= no;
                    return;
                }
            }
            wants[into] = wanted;
            misses[into] = missed;
            mays[into] = yes;
            mayNots[into] = no;
            freshen(into);
            counts[place]++;
            if (counts[place] == MOST) {
                mergeTwo(from, into);
                counts[place]--;
            }
        }

        /** Of two of these that have the most in common leaves what both ask for. */
        private void mergeTwo(int from, int last) {
            int one = from;
            int two = last;
            int most = NONE;
            for (int i = from; i < last; i++) {
                for (int k = i + 1; k <= last; k++) {
                    int common = Long.bitCount(wants[i] & wants[k]) + Long.bitCount(misses[i] & misses[k]);
                    if (common > most) {
                        most = common;
                        one = i;
                        two = k;
                    }
                }
            }
            wants[one] &= wants[two];
            misses[one] &= misses[two];
            mays[one] |= mays[two];
            mayNots[one] |= mayNots[two];
            fresh += isFresh[one] ? 0 : 1;
            isFresh[one] = true;
            wants[two] = wants[last];
            misses[two] = misses[last];
            mays[two] = mays[last];
            mayNots[two] = mayNots[last];
            // The last one is gone, and its place is free.
            fresh -= isFresh[two] && two != last ? 1 : 0;
            isFresh[two] = isFresh[last];
            fresh -= isFresh[last] && two == last ? 1 : 0;
            isFresh[last] = false;
        }
    }

    /**
     * Finds the smallest answer up from the leaves. Values that the schemas can't tell apart count as one:
     * all kinds of values that there are get built by rising sizes, until one answers or nothing new comes.
     * What can't be a part of an answer (see Demands) is left out.
     */
    private static final class Climb {
        private static final int MOST_ROUNDS = 1000000;
        private static final int ENDLESS = Prover.ENDLESS;
        private static final int WIDE = 1024;
        private static final int NARROW = 256;
        /** The tables behind those of the labels: what two and three labels have together, parts of lists, and lists of two parts. */
        private static final int LEFT = LABELS;
        private static final int RIGHT = LABELS + 1;
        private static final int ONES = LABELS + 2;
        private static final int TWOS = LABELS + 3;
        private static final int TABLES = LABELS + 4;
        /** What is joined: for two labels, for three, for lists of two, of three and of four parts, and for records. */
        private static final int PAIRS = 2;
        private static final int THREES = 3;
        private static final int FOURS = 4;
        private static final int RECORDS = 5;
        private static final int JOINS = 6;
        /** For which table it is joined; what is for none is taken in at once. */
        private static final int[] INTO = {LEFT, RIGHT, TWOS};
        /** What a pair of rows costs that is joined for a table, and what is taken in at once and not known yet. */
        private static final int PRICE_FOR_TABLE = 8;
        private static final int PRICE = 24;
        private static final int PRICE_FOR_COUNT = 48;
        /** From how many pairs on it is looked whether to count takes less time than to join them. */
        private static final int MANY = 1 << 18;
        private static final int RANGE = 4;
        /** With how many of the first values others are put together, where great ones are made at once. */
        private static final int FEW = 4;

        private final Cone cone;
        private final Demands demands;
        private final Room room = new Room();
        private final Table[] tables = new Table[TABLES];
        /** The labels, the one with the most rows last; behind them the one whose rows may be lost, or -1. */
        private final int[] order = new int[LABELS + 1];
        /** Of what is joined: both tables, what may come of it, and how many rows of both were joined, each with each. */
        private final Table[] ones = new Table[JOINS];
        private final Table[] others = new Table[JOINS];
        private final long[] masks = new long[JOINS];
        /** Whether nothing that matters can come of it; behind them the same of lists of one part and of two parts. */
        private final boolean[] idle = new boolean[JOINS + 3];
        private final int[] done = new int[2 * JOINS];
        private long must;
        private long mustNot;
        private int best;
        private int largest;
        /** Whether it is only asked whether there is an answer, or no more than that can be told. */
        boolean isAnySize;
        /** How much may still be spent on joining rows. */
        long pairs;
        /** No answer is smaller than this. */
        int floor;
        /** Whether the answer is the smallest size, or that there is none. */
        boolean isSure;
        /** Whether the rows tell all parts of a size below the floor that the smallest answer can have. */
        boolean isKept;

        Climb(Schemas book, Logic logic) {
            cone = new Cone(book);
            demands = new Demands(book, logic);
            for (int i = 0; i < TABLES; i++) {
                tables[i] = new Table(room, cone, i < LABELS ? i : NONE);
            }
            forget();
        }

        /** Forgets what was seen of how many rows the labels have. */
        void forget() {
            for (int i = 0; i < LABELS; i++) {
                order[i] = LABELS - 1 - i;
            }
            order[LABELS] = NONE;
        }

        /** Tells how many rows a table may have, and how much may be spent on joining rows. */
        void allow(int mostRows, long mostPairs) {
            room.rows = mostRows;
            room.quota = mostRows;
            pairs = mostPairs;
            isAnySize = false;
        }

        /**
         * Has the labels joined from now on by how many rows they had. If one had far more than all others, its
         * first rows may be lost where there is no room.
         */
        void arrange() {
            int all = tables[ONES].count;
            for (int i = 0; i < LABELS; i++) {
                all += tables[i].count;
                for (int k = i; k > 0 && tables[order[k]].count < tables[order[k - 1]].count; k--) {
                    int label = order[k];
                    order[k] = order[k - 1];
                    order[k - 1] = label;
                }
            }
            int most = tables[order[LABELS - 1]].count;
            order[LABELS] = most >= WIDE && all - most <= NARROW ? order[LABELS - 1] : NONE;
        }

        /** Whether one label had far more rows than all others. */
        boolean isLine() {
            return order[LABELS] >= 0;
        }

        /** Tells how many rows of one size a table may have; what is more is left out. */
        void thinOut(int mostOfSize) {
            room.quota = mostOfSize;
        }

        /** Tells that it is only asked whether there is an answer: then a greater value can make smaller ones superfluous. */
        void leaveSizes() {
            isAnySize = true;
        }

        /** Asks for a value of all these and of none of those. */
        void ask(long ofAll, long ofNone) {
            must = ofAll;
            mustNot = ofNone;
            best = ENDLESS;
            largest = 0;
            floor = 1;
            isKept = false;
            demands.start(ofAll, ofNone);
            for (int i = 0; i < Demands.MOST_SPREADS && demands.fresh > 0; i++) {
                demands.spread();
            }
            demands.end();
            cone.prepare(demands.helpful, demands.harmful);
            startTables();
            startJoins();
        }

        /** The smallest size below this of what was asked for. */
        int find(int below) {
            for (int t = 0; t < PAIRS; t++) {
                planSum(t, 0);
                fill(t);
                tables[INTO[t]].close(0);
            }
            addLeaves();
            boolean goesOn = closeAll(1);
            int size = 2;
            int line = order[LABELS];
            for (; size < MOST_SIZE && size < below && size <= MOST_PARTS * largest + 1 && goesOn && !isAnySize; size++) {
                long needed = demands.needed();
                for (int t = 0; t < INTO.length; t++) {
                    room.need = t == PAIRS ? cone.listsAmong(needed) : cone.recordsAmong(needed);
                    planSum(t, size - 1);
                    fill(t);
                    tables[INTO[t]].close(size - 1);
                }
                feed(size);
                for (int t = INTO.length; t < JOINS; t++) {
                    room.need = t == RECORDS ? cone.recordsAmong(needed) : cone.listsAmong(needed);
                    planSum(t, size - 1);
                    takeIn(t, size);
                }
                goesOn = closeAll(size);
                isAnySize |= line >= 0 && tables[line].isLost;
            }
            boolean isEnd = goesOn && !isAnySize && size > MOST_PARTS * largest + 1;
            boolean changed = goesOn && !isEnd && (size < below || isAnySize);
            isKept = !changed && !isThin();
            room.need = 0;
            for (int round = 0; round < MOST_ROUNDS && changed && goesOn; round++) {
                for (int t = 0; t < INTO.length; t++) {
                    planRest(t, size - 1);
                    fill(t);
                    tables[INTO[t]].closeRound();
                }
                changed = feed(MOST_SIZE);
                for (int t = INTO.length; t < JOINS; t++) {
                    if (t == RECORDS && wantsMarks()) {
                        changed |= takeMarked();
                    } else {
                        planRest(t, size - 1);
                        changed |= takeIn(t, MOST_SIZE);
                    }
                }
                changed |= line >= 0 && tables[line].isLost;
                goesOn = closeAll(MOST_SIZE);
                isEnd = goesOn && !changed;
            }
            boolean isWhole = !isThin();
            isSure = isWhole && (isEnd || best < ENDLESS);

            floor = isWhole && isEnd ? ENDLESS : floor;
            return best;
        }

        private void startTables() {
            room.replaces = isAnySize;
            room.clear(cone.listWidth(), cone.recordWidth());
            long rising = cone.recordsAmong(cone.rising);
            long falling = cone.recordsAmong(cone.falling);
            for (int i = 0; i < TABLES; i++) {
                Table table = tables[i];
                if (i < LABELS) {
                    table.start(cone.itemsAt(i), cone.itemsOf(rising, i), cone.itemsOf(falling, i));
                    table.addNothing();
                    table.loses = i == order[LABELS];
                } else if (i < ONES) {
                    table.start(cone.recordWidth(), rising, falling);
                } else {
                    table.start(cone.listWidth(), cone.listsAmong(cone.rising), cone.listsAmong(cone.falling));
                }
                table.close(0);
            }
        }

        /** Finds what is to be joined, and whether anything that matters can come of it. */
        private void startJoins() {
            Arrays.fill(done, NONE);
            Arrays.fill(masks, -1L);
            masks[PAIRS] = cone.reaching(2);
            masks[THREES] = cone.taking(3);
            masks[FOURS] = cone.taking(4);
            for (int i = 0; i < 3; i++) {
                int t = i < PAIRS ? i : RECORDS;
                ones[t] = tables[order[i + 1]];
                others[t] = tables[i == 0 ? order[0] : LEFT + i - 1];
            }
            ones[PAIRS] = tables[ONES];
            others[PAIRS] = tables[ONES];
            ones[THREES] = tables[ONES];
            others[THREES] = tables[TWOS];
            ones[FOURS] = tables[TWOS];
            others[FOURS] = tables[TWOS];
            Arrays.fill(idle, isUseless(cone.ofRecords((1L << cone.recordWidth()) - 1)));
            for (int length = 1; length <= MOST_PARTS; length++) {
                idle[length < 3 ? JOINS + length : length] = isUseless(cone.ofLists(cone.taking(length)));
            }
            room.need = 0;
            idle[PAIRS] = idle[JOINS + 2] && idle[THREES] && idle[FOURS];
        }

        private void addLeaves() {
            add(cone.ofLeaf('z', 0), 1);
            add(cone.ofLeaf('b', 0), 1);
            for (int symbol = 0; symbol <= 9; symbol++) {
                add(cone.ofLeaf('s', symbol), 1);
            }
            for (int i = 0; i < cone.breaks(); i++) {
                add(cone.ofLeaf('n', cone.breakAt(i)), 1);
            }
            add(cone.ofLists(cone.taking(0)), 1);
            long empty = cone.withoutLabel(0) & cone.withoutLabel(1) & cone.withoutLabel(2) & cone.withoutLabel(3);
            add(cone.ofRecords(empty), 1);
        }

        /** Takes in a value by the schemas of its own kind; returns whether it is a new part for others. */
        private boolean add(long own, int size) {
            long bits = cone.joinedUp(own);
            if ((must & ~bits) == 0 && (mustNot & bits) == 0) {
                best = Math.min(best, size);
                return false;
            }
            int places = size == 1 ? demands.singles : 0;
            boolean isPart = (places >> IN_LIST & 1) == 1 || demands.serves(IN_LIST, bits);
            boolean isNew = isPart && tables[ONES].insert(cone.asPart(bits));
            for (int label = 0; label < LABELS; label++) {
                if ((places >> label & 1) == 1 || demands.serves(label, bits)) {
                    long row = cone.atLabel(bits, label);
                    isNew |= !cone.isNothingAsGood(row, label, tables[LEFT].more, tables[LEFT].fewer) && tables[label].insert(row);
                }
            }
            largest = isNew ? size : largest;
            return isNew;
        }

        /**
         * Whether there is an answer, as far as it is seen by values all parts of which are the same one, or that and one of
         * the first few: these can be made one upon the other, so that very great ones are found soon.
         */
        boolean findAlong(Logic logic) {
            Table all = tables[LEFT];
            all.start(MOST_SCHEMAS, 0, 0);
            for (int i = 0; i < logic.singleCount; i++) {
                addAlong(logic.singles[i]);
            }
            int at = 0;
            int next = 1;
            for (int n = 0; n < MOST_ROUNDS && at < all.count && pairs > 0 && best == ENDLESS && !all.spilled; n++) {
                int before = all.count;
                for (int k = NONE; k < FEW && k < before; k++) {
                    putTogether(all.keyAt(at), all.keyAt(k < 0 ? at : k));
                }
                // First it goes on from what came of it.
                at = all.count > before ? before : next;
                next += at == next ? 1 : 0;
            }
            return best < ENDLESS;
        }

        /** Takes in the lists and records that can be made of two values, each as often as there is a place. */
        private void putTogether(long part, long other) {
            int choices = part == other ? 1 : 2;
            long row = cone.asPart(part);
            for (int length = 1; length <= MOST_PARTS; length++) {
                row &= length < choices ? -1L : cone.asPart(other);
                room.lane[length - 1] = row & cone.taking(length);
            }
            int found = idle[PAIRS] && idle[JOINS + 1] ? 0 : room.sift(-1L, MOST_PARTS, Logic.LISTS);
            pairs -= MOST_PARTS + PRICE * found;
            for (int i = 0; i < found; i++) {
                addAlong(cone.joinedUp(cone.ofLists(room.fresh[i])));
            }
            int count = 1;
            room.lane[0] = -1L;
            for (int label = 0; label < LABELS && !idle[RECORDS]; label++) {
                long one = cone.keyOf(cone.atLabel(part, label), label);
                long two = cone.keyOf(cone.atLabel(other, label), label);
                for (int i = 0; i < count; i++) {
                    long key = room.lane[i];
                    room.lane[i] = key & cone.withoutLabel(label);
                    room.lane[i + count] = key & one;
                    room.lane[i + choices * count] = key & two;
                }
                count *= 1 + choices;
            }
            found = idle[RECORDS] ? 0 : room.sift(-1L, count, Logic.RECORDS);
            pairs -= count + PRICE * found;
            for (int i = 0; i < found; i++) {
                addAlong(cone.joinedUp(cone.ofRecords(room.fresh[i])));
            }
        }

        private void addAlong(long bits) {
            if ((must & ~bits) == 0 && (mustNot & bits) == 0) {
                best = MOST_SIZE;
            }
            boolean isPart = false;
            for (int place = 0; place < PLACES; place++) {
                isPart |= demands.serves(place, bits);
            }
            if (isPart) {
                tables[LEFT].insert(bits);
            }
        }

        /** Whether no value that is of some of these schemas, and no others of its kind, can be an answer or a part of one. */
        private boolean isUseless(long own) {
            long most = cone.bound(own, true);
            long lowest = cone.bound(own, false);
            return !demands.canServe(most, lowest);
        }

        private void addRange(int from, int to, int otherFrom, int otherTo) {
            int at = room.rangesEnd;
            if (from < to && otherFrom < otherTo && at + RANGE <= room.ranges.length) {
                room.ranges[at] = from;
                room.ranges[at + 1] = to;
                room.ranges[at + 2] = otherFrom;
                room.ranges[at + 3] = otherTo;
                room.rangesEnd = at + RANGE;
            }
        }

        /** Finds the rows that are to be joined whose sizes make this sum. */
        private void planSum(int t, int sum) {
            Table one = ones[t];
            Table other = others[t];
            room.rangesEnd = 0;
            room.leaveGround();
            // What is joined with itself needs no pair twice.
            int last = Math.min(one == other ? sum / 2 : sum, one.top());
            for (int size = Math.max(0, sum - other.top()); size <= last && !isIdle(t); size++) {
                addRange(one.startOf(size), one.startOf(size + 1), other.startOf(sum - size), other.startOf(sum - size + 1));
            }
        }

        /** Finds the rows that were not joined; at first those of sizes with a smaller sum than this were. */
        private void planRest(int t, int sum) {
            Table one = ones[t];
            Table other = others[t];
            int before = done[2 * t];
            int otherEnd = other.opened;
            room.rangesEnd = 0;
            room.leaveGround();
            if (isIdle(t)) {
                return;
            }
            for (int size = 0; size <= one.top() && before < 0; size++) {
                addRange(one.startOf(size), one.startOf(size + 1), other.behind(sum - size), otherEnd);
            }
            addRange(before < 0 ? one.behind(MOST_SIZE) : before, one.opened, 0, otherEnd);
            // What is joined with itself needs no pair twice.
            addRange(0, one == other ? 0 : before, done[2 * t + 1], otherEnd);
            done[2 * t] = one.opened;
            done[2 * t + 1] = otherEnd;
            long all = 0;
            for (int r = 0; r < room.rangesEnd; r += RANGE) {
                all += (long) (room.ranges[r + 1] - room.ranges[r]) * (room.ranges[r + 3] - room.ranges[r + 2]);
            }
            if (all > MANY && one.lost == 0) {
                countAll(t, all);
            }
        }

        /** Counts what all rows have together, if this takes less time than to join so many pairs. */
        private void countAll(int t, long all) {
            Table one = ones[t];
            Table other = others[t];
            long always = -1L;
            long some = 0;
            long otherSome = 0;
            for (int i = 0; i < one.opened; i++) {
                long key = one.keyAt(i) & masks[t];
                always &= key;
                some |= key;
            }
            for (int i = 0; i < other.opened; i++) {
                long key = other.keyAt(i) & masks[t];
                always &= key;
                otherSome |= key;
            }
            if (!room.takeGround(some & otherSome & ~always, always)) {
                return;
            }
            long price = (long) room.groundSize() * PRICE_FOR_COUNT * room.groundParts();
            if (price > all) {
                room.leaveGround();
                return;
            }
            pairs -= price;
            room.rangesEnd = 0;
            addRange(0, 1, 0, room.groundSize() * room.groundParts());
        }

        /**
         * Counts what all rows have together that are in one part. Of each bit that is too much to be counted with the
         * others, three parts tell: both have it; the one has it not, whatever the other has; only the one has it.
         */
        private void count(int t, int part) {
            Table one = ones[t];
            Table other = others[t];
            long rest = room.topSpots();
            long oneMask = rest;
            long oneHas = 0;
            long otherMask = 0;
            long otherHas = 0;
            int told = part;
            for (int i = 0; i < Long.SIZE && rest != 0; i++) {
                long bit = rest & -rest;
                rest &= rest - 1;
                oneHas |= told % 3 == 1 ? 0 : bit;
                otherMask |= told % 3 == 1 ? 0 : bit;
                otherHas |= told % 3 == 0 ? bit : 0;
                told /= 3;
            }
            room.clearGround();
            for (int i = 0; i < one.opened; i++) {
                long key = one.keyAt(i);
                if ((key & oneMask) == oneHas) {
                    room.lay(key, 0);
                }
            }
            for (int i = 0; i < other.opened; i++) {
                long key = other.keyAt(i);
                if ((key & otherMask) == otherHas) {
                    room.lay(key, 1);
                }
            }
            room.countPairs();
        }

        /** Whether there is nothing to join; lists of a length that no schema takes are all alike, the first one is the smallest. */
        private boolean isIdle(int t) {
            return idle[t] || ((t == THREES || t == FOURS) && masks[t] == 0 && room.hasSifted(0, Logic.LISTS));
        }

        /** Puts in a table what it has of the rows that are to be joined. */
        private void fill(int t) {
            Table into = tables[INTO[t]];
            for (int r = 0; r < room.rangesEnd; r += RANGE) {
                int at = room.ranges[r + 2];
                for (int n = at; n < room.ranges[r + 3] && at < room.ranges[r + 3] && !into.spilled; n++) {
                    if (room.isCounted() && (at & room.groundSize() - 1) == 0) {
                        count(t, at / room.groundSize());
                    }
                    int loaded = room.isCounted() ? room.load(at, room.ranges[r + 3]) : others[t].load(at, room.ranges[r + 3], masks[t]);
                    at = room.loadedTo;
                    for (int i = room.ranges[r]; i < room.ranges[r + 1] && loaded > 0 && !into.spilled; i++) {
                        long key = room.isCounted() ? -1L : ones[t].keyAt(i);
                        int found = (room.need & ~key) == 0 ? into.sift(key, loaded) : 0;
                        pairs -= 1 + ((room.need & ~key) == 0 ? loaded + PRICE_FOR_TABLE * found : 0);
                        into.spilled |= pairs <= 0;
                        for (int k = 0; k < found; k++) {
                            into.insert(room.fresh[k]);
                        }
                    }
                }
            }
        }

        /** Takes in, as values of a size, what comes of the rows that are to be joined; returns whether there are new parts. */
        private boolean takeIn(int t, int size) {
            Table one = ones[t];
            boolean changed = false;
            boolean isRecord = t == RECORDS;
            int kind = isRecord ? Logic.RECORDS : Logic.LISTS;
            room.refine(kind);
            for (int r = 0; r < room.rangesEnd; r += RANGE) {
                int at = room.ranges[r + 2];
                for (int n = at; n < room.ranges[r + 3] && at < room.ranges[r + 3] && pairs > 0 && best == ENDLESS; n++) {
                    if (room.isCounted() && (at & room.groundSize() - 1) == 0) {
                        count(t, at / room.groundSize());
                    }
                    int loaded = room.isCounted() ? room.load(at, room.ranges[r + 3]) : others[t].load(at, room.ranges[r + 3], masks[t]);
                    at = room.loadedTo;
                    for (int i = room.ranges[r]; i < room.ranges[r + 1] && loaded > 0 && pairs > 0 && best == ENDLESS; i++) {
                        // The last rows may take the place of those that are to be joined.
                        boolean isLost = i < one.lost && !room.isCounted();
                        one.isLost |= isLost;
                        long key = room.isCounted() || isLost ? -1L : one.keyAt(i);
                        pairs--;
                        if (isLost || (room.need & ~key) != 0) {
                            continue;
                        }
                        int found = room.sift(key, loaded, kind);
                        pairs -= loaded + PRICE * found;
                        for (int k = 0; k < found && best == ENDLESS; k++) {
                            long own = isRecord ? cone.ofRecords(room.fresh[k]) : cone.ofLists(room.fresh[k]);
                            changed |= add(own, size);
                        }
                    }
                }
            }
            return changed;
        }

        /** Whether records are to be joined of which rows were lost. */
        private boolean wantsMarks() {
            int line = order[LABELS];
            if (line < 0 || tables[line].lost == 0) {
                return false;
            }
            Table one = tables[line];
            return one.isLost || done[2 * RECORDS] < one.lost || done[2 * RECORDS + 1] < others[RECORDS].opened;
        }

        /** Takes in all records again, by the marks of the rows that they are joined of; returns whether there are new parts. */
        private boolean takeMarked() {
            Table one = ones[RECORDS];
            Table other = others[RECORDS];
            boolean changed = false;
            int words = one.markWords();
            int line = order[LABELS];
            one.isLost = false;
            done[2 * RECORDS] = one.opened;
            done[2 * RECORDS + 1] = other.opened;
            for (int at = 0; at < other.opened && pairs > 0; at += Room.LANE) {
                int loaded = other.load(at, other.opened, -1L);
                // That nothing is at the label has no mark.
                for (int word = NONE; word < words && pairs > 0 && best == ENDLESS; word++) {
                    long rest = word < 0 ? 1 : one.marksAt(word);
                    for (int n = 0; n < Long.SIZE && rest != 0; n++) {
                        long row = (long) word << 6 | Long.numberOfTrailingZeros(rest);
                        rest &= rest - 1;
                        long key = word < 0 ? cone.withoutLabel(line) : cone.keyOf(row, line);
                        int found = room.sift(key, loaded, Logic.RECORDS);
                        pairs -= loaded + PRICE * found;
                        for (int k = 0; k < found && best == ENDLESS; k++) {
                            changed |= add(cone.ofRecords(room.fresh[k]), MOST_SIZE);
                        }
                    }
                }
            }
            return changed;
        }

        /** Takes in the lists of one part and of two parts that were joined; returns whether there are new parts. */
        private boolean feed(int size) {
            boolean changed = false;
            for (int length = 1; length <= 2; length++) {
                Table table = tables[ONES - 1 + length];
                int end = table.opened;
                for (int i = table.fed; i < end && best == ENDLESS && !idle[JOINS + length]; i++) {
                    room.lane[0] = table.keyAt(i) & cone.taking(length);
                    if (room.sift(-1L, 1, Logic.LISTS) == 1) {
                        changed |= add(cone.ofLists(room.fresh[0]), size);
                    }
                }
                table.fed = end;
            }
            return changed;
        }

        /** Ends a size; returns whether there is still something to look for, and room and time for it. */
        private boolean closeAll(int size) {
            boolean goesOn = best == ENDLESS && pairs > 0;
            for (int i = 0; i < TABLES; i++) {
                goesOn &= !tables[i].spilled;
                if (i < LABELS || i == ONES) {
                    tables[i].close(size);
                }
            }
            boolean isWhole = goesOn && !isThin() && !isAnySize && (order[LABELS] < 0 || !tables[order[LABELS]].isLost);
            floor = isWhole ? Math.min(size + 1, MOST_SIZE) : floor;
            return goesOn;
        }

        /** Up to which size all parts at a place that the smallest answer can have are told by rows. */
        int toldBelow(int place) {
            return isKept && rowsAt(place).lost == 0 ? floor : 0;
        }

        /** The rows at a label, or in lists. */
        Table rowsAt(int place) {
            return tables[place < LABELS ? place : ONES];
        }

        /** How many schemas a row at a place tells of, and which ones these are. */
        int itemsAt(int place) {
            return place < LABELS ? cone.itemsAt(place) : cone.listWidth();
        }

        int itemAt(int place, int index) {
            return place < LABELS ? cone.itemAt(place, index) : cone.partOf(index);
        }

        /** Whether rows tell for sure which values are of a schema, or else which are not. */
        boolean tells(int schema, boolean are) {
            return Cone.holds(are ? cone.rising : cone.falling, schema);
        }

        /** Whether something was left out. */
        private boolean isThin() {
            boolean isThin = false;
            for (Table table : tables) {
                isThin |= table.isThin;
            }
            return isThin;
        }
    }

    /**
     * Clauses of literals, and the search for what meets them all. A literal is twice the number of a variable, and
     * one more for the contrary. Some clauses may fail, but tell what a part then costs; what costs too much in all
     * is ruled out. What is learned from costs holds for limits up to its tag.
     */
    private static final class Clauses {
        static final int ENDLESS = 1 << 20;
        static final int NOTHING = -1;
        /** The most variables, and the literals that always hold and never hold. */
        static final int MOST = 1600;
        static final int HOLDS = 0;
        static final int FAILS = 1;
        /** The sorts of clauses: those that must hold, and those that were learned; others are told by the part that costs. */
        static final int KEPT = -1;
        private static final int LEARNED = -2;
        /**
         * Of a clause: how many literals, its tag or what it costs, its sort, a link for each of the first two literals, where
         * another one to watch was found last, the literals.
         */
        static final int HEAD = 6;
        private static final int TAG = 1;
        private static final int SORT = 2;
        private static final int LINKS = 3;
        private static final int AT = 5;
        static final int MOST_WORDS = 1 << 20;
        private static final int[] SIZES = {1 << 14, 1 << 17, MOST_WORDS};
        /** What is always left of the words, for what is learned next. */
        private static final int SPARE = 1 << 12;
        private static final int MOST_LINKS = 1 << 22;
        /** Of a variable: the level at which it was told, the clause that told it, and when it was last looked at. */
        private static final int LEVEL = 0;
        private static final int REASON = 1;
        static final int SEEN = 2;
        static final int FACTS = 3;
        /** What the parts cost, and why, and the total; a part that is there costs 1, a list or record that is not empty 2. */
        private static final int WHY = MOST_PARTS;
        private static final int TOTAL = 2 * MOST_PARTS;
        private static final int START = TOTAL + 2;
        private static final int IS_THERE = -2;
        private static final int IS_DEEP = -3;

        int[] words = new int[SIZES[0]];
        int top;
        /** Of each literal: the first clause that watches it; and whether it holds (1) or fails (-1). */
        private final int[] heads = new int[2 * MOST];
        final int[] values = new int[2 * MOST];
        final int[] facts = new int[FACTS * MOST];
        private final int[] trail = new int[MOST];
        private int count;
        private int next;
        private final int[] costs = new int[TOTAL + 1];
        /** For each level: how long the trail was and what the parts cost when it began. */
        private final int[] starts = new int[START * MOST];
        int level;
        /** The first variable that tells that a part is there; behind those of all parts the ones that tell that it is deep. */
        private int parts;
        /** Whether the greatest one of the parts counts, and not what they cost together. */
        private boolean isMax;
        private int below;
        private int singles;
        /** What the tags of all that was told without a choice allow. */
        private int zeroTag;
        private int tag;
        private int pending;
        private int clock;
        /** How many clauses were looked at. */
        long work;

        /** Forgets all clauses, and makes room for so many words. */
        void clear(int firstOfParts, boolean isGreatest, int need) {
            for (int i = 1; i < SIZES.length && words.length < need + 2 * SPARE; i++) {
                words = new int[SIZES[i]];
            }
            parts = firstOfParts;
            isMax = isGreatest;
            top = 0;
            singles = NOTHING;
            Arrays.fill(heads, NOTHING);
            Arrays.fill(facts, 0);
            clock = 0;
        }

        /** Whether there is room for more; takes more words if that is needed. */
        boolean hasRoom() {
            for (int i = 1; i < SIZES.length && top + 2 * SPARE > words.length; i++) {
                if (words.length < SIZES[i]) {
                    words = Arrays.copyOf(words, SIZES[i]);
                }
            }
            return top + 2 * SPARE <= words.length;
        }

        /** Starts a clause. */
        void open() {
            words[top] = 0;
        }

        /** Adds a literal to the clause that was started; one that holds whatever is chosen is left out later. */
        void add(int literal) {
            int length = words[top];
            boolean isVoid = length < 0 || literal == HOLDS;
            boolean isKnown = literal == FAILS;
            for (int i = 0; i < length; i++) {
                isVoid |= words[top + HEAD + i] == (literal ^ 1);
                isKnown |= words[top + HEAD + i] == literal;
            }
            words[top] = isVoid ? NOTHING : isKnown ? length : length + 1;
            if (!isVoid && !isKnown) {
                words[top + HEAD + length] = literal;
            }
        }

        /** Ends the clause that was started; returns its place, or -1 if it always holds. */
        int close(int toldTag, int sort) {
            int ref = top;
            int length = words[ref];
            if (length < 0) {
                return NOTHING;
            }
            words[ref + TAG] = toldTag;
            words[ref + SORT] = sort;
            words[ref + AT] = 2;
            top += HEAD + length;
            for (int side = 0; side < 2 && length > 1; side++) {
                int literal = words[ref + HEAD + side];
                words[ref + LINKS + side] = heads[literal];
                heads[literal] = 2 * ref + side;
            }
            if (length == 1) {
                words[ref + LINKS] = singles;
                singles = ref;
            }
            return ref;
        }

        /** Starts a search for what costs less than this in all; false if that fails at once. */
        boolean start(int limit) {
            for (int i = 0; i < count; i++) {
                values[trail[i]] = 0;
                values[trail[i] ^ 1] = 0;
            }
            count = 0;
            next = 0;
            level = 0;
            below = limit;
            zeroTag = ENDLESS;
            Arrays.fill(costs, 0);
            costs[TOTAL] = 1;
            assign(HOLDS, NOTHING);
            for (int ref = singles; ref >= 0; ref = words[ref + LINKS]) {
                int literal = words[ref + HEAD];
                if (words[ref + TAG] >= below && words[ref + SORT] < 0) {
                    if (values[literal] < 0) {
                        return false;
                    }
                    assign(literal, ref);
                }
            }
            return true;
        }

        /** Chooses that a literal holds, if that is not known. */
        void choose(int literal) {
            starts[START * level] = count;
            System.arraycopy(costs, 0, starts, START * level + 1, TOTAL + 1);
            level++;
            if (values[literal] == 0) {
                assign(literal, NOTHING);
            }
        }

        private void assign(int literal, int reason) {
            if (values[literal] != 0) {
                return;
            }
            int at = FACTS * (literal >> 1);
            values[literal] = 1;
            values[literal ^ 1] = -1;
            facts[at + LEVEL] = level;
            facts[at + REASON] = reason;
            trail[count] = literal;
            count++;
            if (level == 0 && reason >= 0) {
                zeroTag = Math.min(zeroTag, words[reason + TAG] + (words[reason + SORT] >= 0 ? 1 : 0));
            }
        }

        /** Goes back to where a level had not gone on. */
        private void goBack(int to) {
            int kept = starts[START * to];
            for (int i = kept; i < count; i++) {
                values[trail[i]] = 0;
                values[trail[i] ^ 1] = 0;
            }
            System.arraycopy(starts, START * to + 1, costs, 0, TOTAL + 1);
            count = kept;
            next = kept;
            level = to;
        }

        /** Draws all that follows; returns a clause that fails, or -1. */
        int draw() {
            for (int i = 0; i < MOST && next < count; i++) {
                int told = trail[next];
                int failed = told ^ 1;
                int part = (told >> 1) - parts;
                next++;
                boolean isPart = (told & 1) == 0 && part >= 0 && part < 2 * MOST_PARTS;
                if (isPart && isTooMuch(part % MOST_PARTS, part < MOST_PARTS ? 1 : 2, part < MOST_PARTS ? IS_THERE : IS_DEEP)) {
                    return explained(NOTHING);
                }
                int before = NOTHING;
                int link = heads[failed];
                for (int n = 0; n < MOST_LINKS && link >= 0; n++) {
                    work++;
                    int ref = link >> 1;
                    int here = ref + LINKS + (link & 1);
                    int following = words[here];
                    int other = words[ref + HEAD + 1 - (link & 1)];
                    int cost = words[ref + TAG];
                    int sort = words[ref + SORT];
                    // What tells of no greater cost than is known is looked at again when less is known.
                    boolean isOff = values[other] > 0
                            || (sort < 0 ? cost < below : isMax ? 1 + cost < below : cost <= costs[sort]);
                    int free = isOff ? NOTHING : freeOf(ref);
                    if (free >= 0) {
                        // Another literal is watched from now on.
                        int literal = words[free];
                        words[free] = failed;
                        words[ref + HEAD + (link & 1)] = literal;
                        words[here] = heads[literal];
                        heads[literal] = link;
                        if (before < 0) {
                            heads[failed] = following;
                        } else {
                            words[before] = following;
                        }
                    } else {
                        before = here;
                        boolean fails = values[other] < 0 && !isOff;
                        if (fails && (sort < 0 || isTooMuch(sort, cost, ref))) {
                            return sort < 0 ? ref : explained(NOTHING);
                        }
                        if (!isOff && !fails && (sort < 0 || 1 + cost >= below)) {
                            assign(other, ref);
                        } else if (!isOff && !fails && !isMax && costs[sort] < cost && costs[TOTAL] - costs[sort] + cost >= below
                                && top + 2 * SPARE <= words.length) {
                            assign(other, explained(ref));
                        }
                    }
                    link = following;
                }
            }
            return NOTHING;
        }

        /** Where a literal stands that does not fail and is not watched, or -1. */
        private int freeOf(int ref) {
            int begin = ref + HEAD;
            int end = begin + words[ref];
            int from = begin + words[ref + AT];
            for (int i = from; i < end; i++) {
                if (values[words[i]] >= 0) {
                    words[ref + AT] = i - begin;
                    return i;
                }
            }
            for (int i = begin + 2; i < from; i++) {
                if (values[words[i]] >= 0) {
                    words[ref + AT] = i - begin;
                    return i;
                }
            }
            return NOTHING;
        }

        /** Notes what a part costs at least; returns whether all costs too much then. */
        private boolean isTooMuch(int part, int cost, int why) {
            if (cost <= costs[part]) {
                return false;
            }
            costs[TOTAL] = isMax ? Math.max(costs[TOTAL], 1 + cost) : costs[TOTAL] + cost - costs[part];
            costs[part] = cost;
            costs[WHY + part] = why;
            return costs[TOTAL] >= below;
        }

        /**
         * A clause that tells why all costs too much, or would if the last literal failed of one that tells of a cost. Of
         * what the other parts cost it tells no more than is needed.
         */
        private int explained(int ref) {
            int made = top;
            int part = ref < 0 ? NOTHING : words[ref + SORT];
            int sum = ref < 0 ? costs[TOTAL] : costs[TOTAL] - costs[part] + words[ref + TAG];
            words[made] = 0;
            for (int i = 0; ref >= 0 && i < words[ref]; i++) {
                words[made + HEAD + i] = words[ref + HEAD + i];
                words[made]++;
            }
            for (int i = 0; i < MOST_PARTS; i++) {
                boolean isEnough = isMax ? 1 + costs[i] < below : sum - costs[i] >= below;
                int why = costs[WHY + i];
                if (i == part || costs[i] == 0 || isEnough) {
                    sum -= i == part || isMax ? 0 : costs[i];
                    continue;
                }
                boolean isThere = values[2 * (parts + i)] > 0 && !isMax && sum - costs[i] + 1 >= below;
                boolean isDeep = costs[i] > 2 && !isMax && sum - costs[i] + 2 >= below;
                if (isThere || isDeep || why < 0) {
                    boolean tellsThere = isThere || (!isDeep && why == IS_THERE);
                    sum -= isThere ? costs[i] - 1 : isDeep ? costs[i] - 2 : 0;
                    words[made + HEAD + words[made]] = 2 * (parts + i + (tellsThere ? 0 : MOST_PARTS)) + 1;
                    words[made]++;
                } else {
                    System.arraycopy(words, why + HEAD, words, made + HEAD + words[made], words[why]);
                    words[made] += words[why];
                }
                if (isMax) {
                    sum = 1 + costs[i];
                    break;
                }
            }
            words[made + AT] = 2;
            words[made + TAG] = sum;
            words[made + SORT] = LEARNED;
            top += HEAD + words[made];
            return made;
        }

        /** Learns from a clause that failed, and goes back to where that tells something. */
        void learn(int failed) {
            int made = top;
            int at = count;
            clock++;
            tag = ENDLESS;
            pending = 0;
            // The first literal comes last.
            words[made] = 1;
            look(failed);
            for (int i = 0; i < MOST && pending > 0 && at > 0; i++) {
                at--;
                int fact = FACTS * (trail[at] >> 1);
                if (facts[fact + SEEN] == clock) {
                    pending--;
                    if (pending > 0) {
                        look(facts[fact + REASON]);
                    }
                }
            }
            at = Math.max(0, Math.min(at, count - 1));
            words[made + HEAD] = trail[at] ^ 1;
            shorten(made);
            int back = 0;
            int place = 1;
            for (int i = 1; i < words[made]; i++) {
                int there = facts[FACTS * (words[made + HEAD + i] >> 1) + LEVEL];
                place = there > back ? i : place;
                back = Math.max(back, there);
            }
            if (words[made] > 1) {
                int literal = words[made + HEAD + place];
                words[made + HEAD + place] = words[made + HEAD + 1];
                words[made + HEAD + 1] = literal;
            }
            goBack(back);
            close(tag, LEARNED);
            assign(words[made + HEAD], made);
        }

        /** Leaves out of a clause that is learned what follows from the other literals in it. */
        private void shorten(int made) {
            int kept = 1;
            for (int i = 1; i < words[made]; i++) {
                int literal = words[made + HEAD + i];
                int reason = facts[FACTS * (literal >> 1) + REASON];
                boolean follows = reason >= 0 && words[reason + TAG] + (words[reason + SORT] >= 0 ? 1 : 0) >= tag;
                for (int k = 0; follows && k < words[reason]; k++) {
                    int fact = FACTS * (words[reason + HEAD + k] >> 1);
                    follows = facts[fact + SEEN] == clock || (facts[fact + LEVEL] == 0 && zeroTag >= tag);
                }
                words[made + HEAD + kept] = literal;
                kept += follows ? 0 : 1;
            }
            words[made] = kept;
        }

        /** Looks at the literals of a clause; those of levels ahead come to what is learned. */
        private void look(int ref) {
            tag = Math.min(tag, words[ref + TAG] + (words[ref + SORT] >= 0 ? 1 : 0));
            for (int i = 0; i < words[ref]; i++) {
                int literal = words[ref + HEAD + i];
                int fact = FACTS * (literal >> 1);
                if (facts[fact + LEVEL] == 0) {
                    tag = Math.min(tag, zeroTag);
                } else if (facts[fact + SEEN] != clock) {
                    facts[fact + SEEN] = clock;
                    if (facts[fact + LEVEL] == level) {
                        pending++;
                    } else {
                        words[top + HEAD + words[top]] = literal;
                        words[top]++;
                    }
                }
            }
        }

        /** Looks for the choices that led to a clause that failed, or, if that is -1, to a literal that fails. */
        void blame(int failed, int literal) {
            clock++;
            words[top] = 0;
            if (failed >= 0) {
                look(failed);
            } else {
                facts[FACTS * (literal >> 1) + SEEN] = clock;
            }
            for (int i = count - 1; i >= 0; i--) {
                int fact = FACTS * (trail[i] >> 1);
                // What comes to the clause by the way is of no meaning here.
                words[top] = 0;
                if (facts[fact + SEEN] == clock && facts[fact + LEVEL] > 0 && facts[fact + REASON] >= 0) {
                    look(facts[fact + REASON]);
                }
            }
        }

        /** Whether a literal was chosen and is to blame. */
        boolean isBlamed(int literal) {
            int fact = FACTS * (literal >> 1);
            return facts[fact + SEEN] == clock && facts[fact + REASON] < 0;
        }
    }

    /**
     * Whether a list or a record that is not empty can be as is asked for, and what its parts then have to be, told in
     * clauses. A variable for each schema tells of the value itself, and so does one for each part; behind them stands
     * whether the value is a list, which parts are there, which of them are deep (neither empty nor of size 1 otherwise),
     * which of those are lists, which schemas a part is told to lack, and which values of size 1 parts are.
     */
    private static final class Ways {
        private static final int BLOCKS = MOST_PARTS + 1;
        private static final int THERE = 1;
        private static final int DEEP = THERE + MOST_PARTS;
        private static final int DEEP_LIST = DEEP + MOST_PARTS;
        private static final int LACKING = DEEP_LIST + MOST_PARTS;
        private static final int MOST_CODES = 2 * MOST_SCHEMAS + 2;
        private static final int MOST_STEPS = 10000000;
        private static final int NOT = 64;
        static final int TELLERS = 4;
        /** Above what a part costs stand the places where it does. */
        static final int WHERE = 32;

        private final Schemas book;
        private final Logic logic;
        final Clauses clauses = new Clauses();
        /** For each schema the literal that tells that the value is of it; and the schemas that have variables. */
        private final int[] codes = new int[MOST_SCHEMAS];
        private final int[] schemas = new int[MOST_SCHEMAS + 1];
        private int width;
        /** The values of size 1 that these schemas tell apart. */
        private final int[] singles = new int[4 * MOST_SCHEMAS];
        private int singleCount;
        /** For each place of a part, the schemas that matter there. */
        private final long[] around = new long[MOST_PARTS];
        /** For each literal of the value, the clause that tells on which others it hangs, or -1. */
        private final int[] grounds = new int[MOST_CODES];
        /** The schemas that are asked for, those that it must not be of with a mark. */
        private final int[] asked = new int[MOST_CODES];
        private int askedCount;
        /** What is still to be looked at, and what was. */
        private final int[] open = new int[MOST_CODES];
        private int openCount;
        private final long[] marks = new long[2];
        /** What each part must be of, and behind that what each must not be of; and the parts that are there, as bits. */
        final long[] needs = new long[2 * MOST_PARTS];
        int there;
        /** What of what was asked for is too much, as far as it is seen. */
        long coreYes;
        long coreNo;
        /** Whether it took too long to tell. */
        boolean isUnsure;

        Ways(Schemas book, Logic logic) {
            this.book = book;
            this.logic = logic;
        }

        /** Tells anew of some schemas; all that tell of what they are made of have to be among them. */
        void build(long cone, boolean isGreatest) {
            width = 0;
            for (int i = 0; i < book.count; i++) {
                int s = book.order[i];
                codes[s] = Cone.holds(cone, s) ? codeOf(s) : Clauses.HOLDS;
            }
            gatherAround(cone);
            gatherSingles(cone);
            Arrays.fill(grounds, NONE);
            int need = 310 * (width + 1) + 3 * width * width + MOST_PARTS * (singleCount * (8 * width + 18) + 10);
            clauses.clear(1 + BLOCKS * width + THERE, isGreatest, need);
            clauses.open();
            for (int i = 0; i < MOST_PARTS; i++) {
                clauses.add(other(THERE + i));
            }
            clauses.close(Clauses.ENDLESS, Clauses.KEPT);
            for (int i = 1; i < MOST_PARTS; i++) {
                tell(other(0) ^ 1, other(THERE + i) ^ 1, other(THERE + i - 1));
            }
            for (int j = 1; j <= width; j++) {
                tellNode(schemas[j], 2 * j);
            }
            for (int i = 0; i < MOST_PARTS; i++) {
                tellPart(i);
                tellSingles(i);
            }
            tellOrder();
        }

        /** A name comes to the same as what it is bound to, and a contrary to what it is the contrary of. */
        private int codeOf(int s) {
            if (Cone.holds(book.always | book.never, s)) {
                return Cone.holds(book.always, s) ? Clauses.HOLDS : Clauses.FAILS;
            }
            switch (book.kinds[s]) {
                case '!':
                    return codes[book.firsts[s]] ^ 1;
                case 'r':
                    return codes[book.bound[book.firsts[s]]];
                default:
                    width++;
                    schemas[width] = s;
                    return 2 * width;
            }
        }

        /** The schemas that tell of the part at each place. */
        private void gatherAround(long cone) {
            for (int i = 0; i < MOST_PARTS; i++) {
                around[i] = 0;
                for (int s = 0; s < book.count; s++) {
                    boolean isNest = Cone.holds(cone, s) && (book.kinds[s] == 'l' || book.kinds[s] == 'o');
                    around[i] |= isNest ? Cone.bit(book.below(s, i)) : 0;
                }
                long before = 0;
                for (int pass = 0; pass < MOST_SCHEMAS && around[i] != before; pass++) {
                    before = around[i];
                    for (int s = 0; s < book.count; s++) {
                        around[i] |= Cone.holds(before, s) ? book.joined(s) : 0;
                    }
                }
            }
        }

        private void gatherSingles(long cone) {
            singleCount = 0;
            for (int j = 0; j < logic.singleCount; j++) {
                boolean isNew = true;
                for (int k = 0; k < singleCount; k++) {
                    isNew &= ((logic.singles[j] ^ logic.singles[singles[k]]) & cone) != 0;
                }
                if (isNew) {
                    singles[singleCount] = j;
                    singleCount++;
                }
            }
        }

        /** The literal of one of the variables behind those for schemas. */
        private int other(int number) {
            return 2 * (1 + BLOCKS * width + number);
        }

        /** The literal that tells that a part is of a schema. */
        private int ofPart(int part, int s) {
            int code = codes[s];
            return code <= Clauses.FAILS ? code : code + 2 * width * (part + 1);
        }

        /** The literal that tells that a part lacks what a literal of the value tells. */
        private int lacks(int part, int code) {
            return other(LACKING + part * 2 * (width + 1) + code);
        }

        private int isSingle(int part, int number) {
            return 2 * (1 + BLOCKS * width + LACKING + MOST_PARTS * 2 * (width + 1) + part * singleCount + number);
        }

        private int tell(int one, int two, int three) {
            clauses.open();
            clauses.add(one);
            clauses.add(two);
            clauses.add(three);
            return clauses.close(Clauses.ENDLESS, Clauses.KEPT);
        }

        /** Tells what a schema means for the value, by what its parts are. */
        private void tellNode(int s, int own) {
            switch (book.kinds[s]) {
                case 'u':
                    grounds[own] = tellJoin(own, codes[book.firsts[s]], codes[book.seconds[s]]);
                    break;
                case '&':
                    grounds[own ^ 1] = tellJoin(own ^ 1, codes[book.firsts[s]] ^ 1, codes[book.seconds[s]] ^ 1);
                    break;
                case 'l':
                    tellList(s, own);
                    break;
                case 'o':
                    tellRecord(s, own);
                    break;
                default:
                    tell(own ^ 1, Clauses.FAILS, Clauses.FAILS);
                    break;
            }
        }

        /** Tells that a literal holds just if one of two others does; returns the clause that tells what it hangs on. */
        private int tellJoin(int own, int one, int two) {
            int ground = tell(own ^ 1, one, two);
            tell(own, one ^ 1, Clauses.FAILS);
            tell(own, two ^ 1, Clauses.FAILS);
            return ground;
        }

        private void tellList(int s, int own) {
            int a = book.firsts[s];
            int least = book.seconds[s];
            int most = book.thirds[s];
            int isLong = least == 0 ? Clauses.HOLDS : other(THERE + least - 1);
            int isLonger = most == MOST_PARTS ? Clauses.FAILS : other(THERE + most);
            tell(own ^ 1, other(0), Clauses.FAILS);
            tell(own ^ 1, isLong, Clauses.FAILS);
            tell(own ^ 1, isLonger ^ 1, Clauses.FAILS);
            for (int i = 0; i < MOST_PARTS; i++) {
                tell(own ^ 1, other(THERE + i) ^ 1, ofPart(i, a));
            }
            clauses.open();
            clauses.add(own);
            clauses.add(other(0) ^ 1);
            clauses.add(isLong ^ 1);
            clauses.add(isLonger);
            for (int i = 0; i < MOST_PARTS; i++) {
                clauses.add(lacks(i, codes[a]));
            }
            grounds[own ^ 1] = clauses.close(Clauses.ENDLESS, Clauses.KEPT);
        }

        private void tellRecord(int s, int own) {
            tell(own ^ 1, other(0) ^ 1, Clauses.FAILS);
            for (int i = 0; i < LABELS; i++) {
                int item = book.itemAt(s, i);
                boolean isOpen = item < 0 && !book.isClosed(s);
                int fits = isOpen ? Clauses.HOLDS : item < 0 ? Clauses.FAILS : ofPart(i, item);
                tell(own ^ 1, book.mustHave(s, i) ? other(THERE + i) : Clauses.HOLDS, Clauses.FAILS);
                tell(own ^ 1, other(THERE + i) ^ 1, fits);
            }
            clauses.open();
            clauses.add(own);
            clauses.add(other(0));
            for (int i = 0; i < LABELS; i++) {
                int item = book.itemAt(s, i);
                boolean isOpen = item < 0 && !book.isClosed(s);
                clauses.add(book.mustHave(s, i) ? other(THERE + i) ^ 1 : Clauses.FAILS);
                clauses.add(isOpen ? Clauses.FAILS : item < 0 ? other(THERE + i) : lacks(i, codes[item]));
            }
            grounds[own ^ 1] = clauses.close(Clauses.ENDLESS, Clauses.KEPT);
        }

        /** Tells what a part can be, as far as that is known of all lists and records that are not empty. */
        private void tellPart(int part) {
            int isThere = other(THERE + part);
            int isDeep = other(DEEP + part);
            int isList = other(DEEP_LIST + part);
            tell(isDeep ^ 1, isThere, Clauses.FAILS);
            for (int j = 1; j <= width; j++) {
                int item = book.below(schemas[j], part);
                boolean isNest = book.kinds[schemas[j]] == 'l' || book.kinds[schemas[j]] == 'o';
                if (isNest && item >= 0) {
                    tell(lacks(part, codes[item]) ^ 1, isThere, Clauses.FAILS);
                    tell(lacks(part, codes[item]) ^ 1, ofPart(part, item) ^ 1, Clauses.FAILS);
                }
            }
            for (int j = 1; j <= width; j++) {
                int s = schemas[j];
                int own = ofPart(part, s);
                if (!Cone.holds(around[part], s)) {
                    continue;
                }
                if (book.kinds[s] == 'u') {
                    tellJoin(own, ofPart(part, book.firsts[s]), ofPart(part, book.seconds[s]));
                } else if (book.kinds[s] == '&') {
                    tellJoin(own ^ 1, ofPart(part, book.firsts[s]) ^ 1, ofPart(part, book.seconds[s]) ^ 1);
                }
                for (int kind = Logic.EITHER; kind <= Logic.RECORDS; kind++) {
                    int unless = kind == Logic.EITHER ? Clauses.FAILS : kind == Logic.LISTS ? isList ^ 1 : isList;
                    boolean isNever = Cone.holds(logic.nevers[kind], s);
                    tell(isDeep ^ 1, unless, isNever ? own ^ 1 : Cone.holds(logic.alwayses[kind], s) ? own : Clauses.HOLDS);
                }
            }
        }

        private void tellSingles(int part) {
            int isThere = other(THERE + part);
            int isDeep = other(DEEP + part);
            clauses.open();
            clauses.add(isThere ^ 1);
            clauses.add(isDeep);
            for (int i = 0; i < singleCount; i++) {
                clauses.add(isSingle(part, i));
            }
            clauses.close(Clauses.ENDLESS, Clauses.KEPT);
            for (int i = 0; i < singleCount; i++) {
                int single = isSingle(part, i);
                tell(single ^ 1, isDeep ^ 1, Clauses.FAILS);
                tell(single ^ 1, isThere, Clauses.FAILS);
                for (int j = 1; j <= width; j++) {
                    int s = schemas[j];
                    boolean isAtom = book.kinds[s] != 'u' && book.kinds[s] != '&';
                    if (isAtom && Cone.holds(around[part], s)) {
                        tell(single ^ 1, ofPart(part, s) ^ (Cone.holds(logic.singles[singles[i]], s) ? 0 : 1), Clauses.FAILS);
                    }
                }
            }
        }

        /** The parts of a list can change places: they stand in the order of the first schemas that they are told to lack. */
        private void tellOrder() {
            openCount = 0;
            for (int j = 1; j <= width; j++) {
                boolean isNew = book.kinds[schemas[j]] == 'l';
                int code = isNew ? codes[book.firsts[schemas[j]]] : Clauses.HOLDS;
                for (int k = 0; k < openCount; k++) {
                    isNew &= open[k] != code;
                }
                open[openCount] = code;
                openCount += isNew ? 1 : 0;
            }
            for (int part = 1; part < MOST_PARTS; part++) {
                for (int k = 0; k < openCount; k++) {
                    clauses.open();
                    clauses.add(other(0) ^ 1);
                    clauses.add(lacks(part, open[k]) ^ 1);
                    for (int q = 0; q <= k; q++) {
                        clauses.add(lacks(part - 1, open[q]));
                    }
                    clauses.close(Clauses.ENDLESS, Clauses.KEPT);
                }
            }
        }

        /** Tells that a list or record, if it is deep and of all these and of none of those, costs so much as a part at some places. */
        void tellCost(long yes, long no, long told) {
            int cost = (int) told;
            int places = (int) (told >> WHERE);
            boolean isInList = (places >> IN_LIST & 1) == 1;
            for (int i = 0; i < MOST_PARTS; i++) {
                boolean isAtLabel = (places >> i & 1) == 1;
                if ((isAtLabel || isInList) && ((yes | no) & ~around[i]) == 0 && clauses.hasRoom()) {
                    clauses.open();
                    clauses.add(other(DEEP + i) ^ 1);
                    clauses.add(isAtLabel == isInList ? Clauses.FAILS : isAtLabel ? other(0) : other(0) ^ 1);
                    for (int s = 0; s < book.count; s++) {
                        clauses.add(Cone.holds(yes, s) ? ofPart(i, s) ^ 1 : Clauses.FAILS);
                        clauses.add(Cone.holds(no, s) ? ofPart(i, s) : Clauses.FAILS);
                    }
                    // What costs is told by two literals at least, for it is them that are watched.
                    clauses.add(other(THERE + i) ^ 1);
                    clauses.close(cost, cost >= Clauses.ENDLESS ? Clauses.KEPT : i);
                }
            }
        }

        /**
         * Whether a list or record that is not empty can be of all these and of none of those with a total below this, as
         * far as the costs of parts are told; if not, it is seen what of these and those is too much.
         */
        boolean isMet(long yes, long no, int below, int mostTries) {
            ask(yes, no);
            if (!clauses.start(below)) {
                return false;
            }
            int tries = 0;
            for (int i = 0; i < MOST_STEPS; i++) {
                int failed = clauses.draw();
                int level = clauses.level;
                int choice = NONE;
                if (failed >= 0 && level > askedCount) {
                    clauses.learn(failed);
                    tries++;
                    isUnsure = tries > mostTries || !clauses.hasRoom();
                    if (isUnsure) {
                        return true;
                    }
                    continue;
                }
                if (failed < 0 && level < askedCount) {
                    choice = codes[asked[level] % NOT] ^ asked[level] / NOT;
                } else if (failed < 0) {
                    choice = walk(false);
                    choice = choice < 0 ? shapeChoice() : choice;
                    if (choice < 0) {
                        return true;
                    }
                }
                if (failed >= 0 || clauses.values[choice] < 0) {
                    clauses.blame(failed, choice);
                    gatherCore(failed >= 0 ? level : level + 1);
                    return false;
                }
                clauses.choose(choice);
            }
            isUnsure = true;
            return true;
        }

        private void ask(long yes, long no) {
            isUnsure = false;
            coreYes = 0;
            coreNo = 0;
            askedCount = 0;
            for (int s = 0; s < book.count; s++) {
                for (int sign = 0; sign < 2; sign++) {
                    if (Cone.holds(sign == 0 ? yes : no, s)) {
                        asked[askedCount] = s + sign * NOT;
                        askedCount++;
                    }
                }
            }
        }

        /** Gathers what of the first things that were asked for is to blame, the last one of them in any case. */
        private void gatherCore(int count) {
            for (int i = 0; i < count && i < askedCount; i++) {
                int s = asked[i] % NOT;
                int sign = asked[i] / NOT;
                if (clauses.isBlamed(codes[s] ^ sign) || (i == count - 1 && clauses.values[codes[s] ^ sign] < 0)) {
                    coreYes |= sign == 0 ? Cone.bit(s) : 0;
                    coreNo |= sign == 1 ? Cone.bit(s) : 0;
                }
            }
        }

        /** What is to be chosen of the shape of the value, and of its parts of size 1, or -1 if nothing has to be. */
        private int shapeChoice() {
            int[] values = clauses.values;
            int choice = values[other(0)] == 0 ? other(0) : NONE;
            for (int i = MOST_PARTS - 1; i >= 0 && choice < 0; i--) {
                choice = values[other(THERE + i)] == 0 ? other(THERE + i) ^ 1 : NONE;
            }
            for (int i = 0; i < MOST_PARTS && choice < 0; i++) {
                boolean isSettled = values[other(THERE + i)] <= 0 || values[other(DEEP + i)] > 0;
                for (int j = 0; j < singleCount && !isSettled; j++) {
                    int single = isSingle(i, j);
                    boolean isBetter = choice < 0 || seen(single) > seen(choice);
                    choice = values[single] == 0 && isBetter ? single : choice;
                    isSettled = values[single] > 0;
                }
                choice = isSettled ? NONE : choice;
            }
            return choice;
        }

        private int seen(int literal) {
            return clauses.facts[Clauses.FACTS * (literal >> 1) + Clauses.SEEN];
        }

        /**
         * Goes through what has to be so; returns what is to be chosen for something that has no ground yet, or -1. It can
         * gather what is needed of the parts by the way.
         */
        private int walk(boolean gathers) {
            marks[0] = 0;
            marks[1] = 0;
            openCount = 0;
            for (int i = 0; i < askedCount; i++) {
                push(codes[asked[i] % NOT] ^ asked[i] / NOT);
            }
            for (int n = 0; n < MOST_CODES && openCount > 0; n++) {
                openCount--;
                int code = open[openCount];
                int s = schemas[code >> 1];
                int sign = code & 1;
                char kind = book.kinds[s];
                boolean isJoin = kind == 'u' || kind == '&';
                int best = grounds[code] < 0 ? NONE : bestOf(grounds[code]);
                if (isJoin && sign == (kind == 'u' ? 1 : 0)) {
                    push(codes[book.firsts[s]] ^ sign);
                    push(codes[book.seconds[s]] ^ sign);
                } else if (best >= 0 && clauses.values[best] == 0) {
                    return best;
                } else if (isJoin && best >= 0) {
                    push(best);
                } else if (gathers && sign == 0) {
                    needAll(s);
                } else if (gathers && best >= 0) {
                    needLack(grounds[code]);
                }
            }
            return NONE;
        }

        private void push(int code) {
            if (code > Clauses.FAILS && (marks[code & 1] >> (code >> 1) & 1) == 0) {
                marks[code & 1] |= 1L << (code >> 1);
                open[openCount] = code;
                openCount++;
            }
        }

        /** Of the literals of a clause one that holds, best one that is looked at anyway; or else the one that is to be tried. */
        private int bestOf(int ground) {
            int[] words = clauses.words;
            int[] facts = clauses.facts;
            int best = NONE;
            for (int i = 0; i < words[ground]; i++) {
                int literal = words[ground + Clauses.HEAD + i];
                int value = clauses.values[literal];
                int known = best < 0 ? NONE : clauses.values[best];
                boolean isAsked = literal < 2 * (width + 1) && (marks[literal & 1] >> (literal >> 1) & 1) == 1;
                boolean isNewer = known == 0 && facts[Clauses.FACTS * (literal >> 1) + Clauses.SEEN]
                        > facts[Clauses.FACTS * (best >> 1) + Clauses.SEEN];
                if (value > known || (value == known && value >= 0 && (value > 0 ? isAsked : isNewer))) {
                    best = literal;
                }
            }
            return best;
        }

        /** All parts need what a schema of lists or records tells of them. */
        private void needAll(int s) {
            for (int i = 0; i < MOST_PARTS; i++) {
                int item = book.kinds[s] == 'l' ? book.firsts[s] : book.kinds[s] == 'o' ? book.items[s * LABELS + i] : NONE;
                if (item >= 0 && clauses.values[2 * (1 + BLOCKS * width + THERE + i)] > 0 && codes[item] > Clauses.FAILS) {
                    needs[i + MOST_PARTS * (codes[item] & 1)] |= 1L << schemas[codes[item] >> 1];
                }
            }
        }

        /** One part needs to lack something, unless something else is the ground. */
        private void needLack(int ground) {
            int first = 1 + BLOCKS * width + LACKING;
            int chosen = NONE;
            for (int i = 0; i < clauses.words[ground]; i++) {
                int literal = clauses.words[ground + Clauses.HEAD + i];
                int place = (literal >> 1) - first;
                if (clauses.values[literal] <= 0) {
                    continue;
                }
                int part = place / (2 * (width + 1));
                int code = place % (2 * (width + 1));
                if (place < 0 || code <= Clauses.FAILS || (needs[part + MOST_PARTS * (1 - (code & 1))] >> schemas[code >> 1] & 1) == 1) {
                    return;
                }
                chosen = chosen < 0 || place < chosen ? place : chosen;
            }
            int part = chosen / (2 * (width + 1));
            int code = chosen % (2 * (width + 1));
            if (chosen >= 0) {
                needs[part + MOST_PARTS * (1 - (code & 1))] |= 1L << schemas[code >> 1];
            }
        }

        /** Tells what was found of the parts: what each must be of, and of what not. */
        void lift() {
            Arrays.fill(needs, 0);
            walk(true);
            there = 0;
            for (int i = 0; i < MOST_PARTS; i++) {
                there |= clauses.values[other(THERE + i)] > 0 ? 1 << i : 0;
            }
        }

        boolean isList() {
            return clauses.values[other(0)] > 0;
        }

        /** Whether a part was found to be of all these and of none of those. */
        boolean isSo(int part, long these, long those) {
            boolean isSo = ((these | those) & ~around[part]) == 0;
            for (int s = 0; s < book.count && isSo; s++) {
                isSo = !Cone.holds(these | those, s) || clauses.values[ofPart(part, s)] == (Cone.holds(these, s) ? 1 : -1);
            }
            return isSo;
        }

        /**
         * Tells for each place and each schema by which bits of a row it is seen that a part is of the schema: those that it
         * has, and those that it lacks; and then both for not being of it.
         */
        void readRows(Climb ground, long[] tellers) {
            Arrays.fill(tellers, 0);
            for (int place = 0; place < PLACES; place++) {
                for (int i = 0; i < ground.itemsAt(place); i++) {
                    int item = ground.itemAt(place, i);
                    int code = codes[item];
                    if (code > Clauses.FAILS) {
                        int at = TELLERS * (place * MOST_SCHEMAS + schemas[code >> 1]);
                        int turn = code & 1;
                        tellers[at + 2 * turn] |= ground.tells(item, true) ? 1L << i : 0;
                        tellers[at + 3 - 2 * turn] |= ground.tells(item, false) ? 1L << i : 0;
                    }
                }
            }
        }
    }

    /**
     * Finds how small the smallest value is that is as is asked for, down from the question. It keeps what it learned of how
     * great all lists and records that are not empty are that are of some schemas and not of others, and looks for a value
     * that is no greater than this allows: either there is one, or more is learned. Instead of sizes it can count how deep
     * values are: then it sees, too, when there is none at all.
     */
    private static final class Prover {
        static final int ENDLESS = Clauses.ENDLESS;
        private static final int HUGE = ENDLESS / 2;
        private static final int LEAST_DEEP = 2;
        private static final int MOST_FACTS = 80000;
        private static final int MOST_FACTS_DEPTH = 20000;
        private static final int MOST_MADE = 10000;
        private static final int MOST_FRAMES = 2500;
        private static final int MOST_LEVELS = 1 << 12;
        private static final int MOST_STEPS = 100000000;
        /** Up to how many words facts are told in clauses ahead, the last ones first; all others are told when they are missed. */
        private static final int FULL = Clauses.MOST_WORDS / 8;
        private static final int GROWTH = 60000;
        /** How often it is tried again to tell less of what is too much, and how many of such tries stand within each other. */
        private static final int TRIES = 2;
        private static final int NESTED = 1;
        private static final int FEW_FAILS = 1000;
        private static final int MANY_FAILS = 100000;
        private static final int RISE = 20;
        /** Of a frame: what is asked for, and what was found of the parts; the shape (or -1), what parts cost at least, the place. */
        private static final int ASKS = 2 + 2 * MOST_PARTS;
        private static final int STATES = 2 + MOST_PARTS;
        private static final int PLACE = 1 + MOST_PARTS;
        private static final int IS_LIST = 1 << MOST_PARTS;
        /** Of a fact: of which and not of which schemas, and what it counts and for which places. */
        private static final int FACT = 3;
        private static final int WHERE = Ways.WHERE;
        /** Where the question itself stands, and all places with it. */
        private static final int ROOT = PLACES;
        private static final int EVERYWHERE = (2 << PLACES) - 1;

        private final Ways ways;
        private final boolean isDepth;
        private long cone;
        /** For some schemas, and some others, what no deep part at some places counts less than that is of these and not of those. */
        private final long[] facts;
        private int factCount;
        /** How many facts have each bound. */
        private final int[] levels = new int[MOST_LEVELS];
        /** The values that were made: the schemas that they are of, and those of which that is known; what they count and their sizes. */
        private final long[] made = new long[2 * MOST_MADE];
        private final int[] counts = new int[2 * MOST_MADE];
        private int madeCount;
        /** Where the next one is put; in the end it takes the place of an old one. */
        private int nextMade;
        private final long[] asks = new long[ASKS * MOST_FRAMES];
        private final int[] states = new int[STATES * MOST_FRAMES];
        private int frames;
        /** What was found of parts, for each of the tries that stand within each other. */
        private final long[] needs = new long[2 * MOST_PARTS * (NESTED + 1)];
        /** No answer counts less than this; and the size of an answer, or ENDLESS. */
        int lower;
        int found;
        /** Whether it can't come to its end. */
        boolean isStuck;
        /** The rows of the parts that an answer of this question can have, or null; and what their bits tell (see Ways.readRows). */
        private Climb ground;
        private final long[] tellers = new long[Ways.TELLERS * PLACES * MOST_SCHEMAS];
        /** What was seen of the rows, to be learned: of all which, of none of which, and at which places. */
        private final long[] shown = new long[3];

        Prover(Ways ways, boolean isDepth) {
            this.ways = ways;
            this.isDepth = isDepth;
            facts = new long[FACT * (isDepth ? MOST_FACTS_DEPTH : MOST_FACTS)];
        }

        /** Forgets all that was learned and made, for schemas are not as they were. */
        void forget() {
            Arrays.fill(levels, 0);
            cone = 0;
            factCount = 0;
            madeCount = 0;
            nextMade = 0;
            ground = null;
        }

        /** Starts with a question for a value of these and not of those; what was learned for others holds for it, too. */
        void start(long must, long mustNot) {
            long all = must | mustNot;
            long before = 0;
            for (int pass = 0; pass < MOST_SCHEMAS && all != before; pass++) {
                before = all;
                for (int s = 0; s < ways.book.count; s++) {
                    all |= Cone.holds(before, s) ? ways.book.joined(s) | ways.book.nested(s) : 0;
                }
            }
            isStuck = false;
            // Facts that stand by each other can't be told without some of them.
            boolean isFull = 2 * FACT * factCount > facts.length || 2 * madeCount > MOST_MADE;
            if ((cone & ~all) != 0 || isFull || ground != null) {
                forget();
            }
            ground = null;
            for (int i = 0; i < ways.logic.singleCount && cone == 0; i++) {
                note(ways.logic.singles[i], -1L, 1, 1);
            }
            cone = all;
            frames = 0;
            push(must, mustNot, ROOT);
            lower = 1;
            found = ENDLESS;
        }

        /** Takes over what another one knows to have no values. */
        void adopt(Prover other) {
            for (int i = 0; i < other.factCount; i++) {
                boolean isNew = (int) other.facts[FACT * i + 2] >= ENDLESS && FACT * factCount < facts.length;
                for (int k = 0; k < factCount && isNew; k++) {
                    isNew = facts[FACT * k] != other.facts[FACT * i] || facts[FACT * k + 1] != other.facts[FACT * i + 1];
                }
                if (isNew) {
                    System.arraycopy(other.facts, FACT * i, facts, FACT * factCount, FACT);
                    factCount++;
                }
            }
        }

        /** Takes the rows that were found on the way up for this question; what is learned from them holds for no other one. */
        void stand(Climb climb) {
            ground = climb;
        }

        private void push(long must, long mustNot, int place) {
            asks[ASKS * frames] = must;
            asks[ASKS * frames + 1] = mustNot;
            states[STATES * frames] = NONE;
            states[STATES * frames + PLACE] = place;
            frames++;
        }

        private void note(long bits, long known, int count, int size) {
            int place = nextMade;
            made[2 * place] = bits;
            made[2 * place + 1] = known;
            counts[2 * place] = count;
            counts[2 * place + 1] = size;
            madeCount = Math.max(madeCount, place + 1);
            nextMade = place + 1 < MOST_MADE ? place + 1 : ways.logic.singleCount;
        }

        /** Goes on until it is settled, or so much work was done. */
        void run(long work) {
            int cap = isDepth ? ENDLESS : MOST_SIZE;
            long end = ways.clauses.work + work;
            int limit = 0;
            boolean isDone = false;
            for (int i = 0; i < MOST_STEPS && !isDone && !isStuck && ways.clauses.work < end; i++) {
                if (ways.clauses.top >= limit) {
                    ways.build(cone, isDepth);
                    for (int k = FACT * (factCount - 1); k >= 0 && ways.clauses.top < FULL; k -= FACT) {
                        ways.tellCost(facts[k], facts[k + 1], facts[k + 2]);
                    }
                    if (ground != null) {
                        ways.readRows(ground, tellers);
                    }
                    limit = Math.min(2 * ways.clauses.top + GROWTH, Clauses.MOST_WORDS / 8 * 7);
                }
                int frame = frames - 1;
                long yes = asks[ASKS * frame];
                long no = asks[ASKS * frame + 1];
                int place = states[STATES * frame + PLACE];
                int bound = boundOf(yes, no, place);
                int known = leastMade(yes, no);
                boolean isSettled = bound >= cap || isEnough(known, bound);
                if (frame == 0) {
                    lower = bound;
                    found = known < 0 ? ENDLESS : counts[2 * known + 1];
                    isDone = isSettled;
                }
                if (isSettled) {
                    frames -= frame == 0 ? 0 : 1;
                } else if (states[STATES * frame] >= 0) {
                    goOn(frame);
                } else {
                    int seen = sees(yes, no, place, bound);
                    if (seen > 0) {
                        learn(shown[0], shown[1], seen, (int) shown[2]);
                    } else if (seen < 0 && ways.isMet(yes, no, bound + 1, MANY_FAILS)) {
                        isStuck |= ways.isUnsure;
                        ways.lift();
                        keepNeeds(frame, bound);
                    } else if (seen < 0) {
                        narrow(bound + 1, 0);
                        findEndless();
                        frames -= frame == 0 ? 0 : 1;
                    }
                }
            }
        }

        /** What no value at a place counts less than that is of all these and of none of those; ENDLESS if there is none. */
        private int boundOf(long yes, long no, int place) {
            if (ways.logic.hasSingle(yes, no)) {
                return 1;
            }
            ways.logic.yes = yes;
            ways.logic.no = no;
            if (!ways.logic.ease(ways.logic.nevers[Logic.EITHER], ways.logic.alwayses[Logic.EITHER])) {
                return ENDLESS;
            }
            int bound = LEAST_DEEP;
            for (int i = 0; i < FACT * factCount; i += FACT) {
                boolean holds = ((facts[i] & ~ways.logic.yes) | (facts[i + 1] & ~ways.logic.no)) == 0;
                if (holds && (int) facts[i + 2] > bound && (facts[i + 2] >> WHERE + place & 1) == 1) {
                    bound = (int) facts[i + 2];
                }
            }
            return bound;
        }

        /**
         * Looks for a part at a place among the rows that were found on the way up. Returns what it costs at least, if that
         * is more than the bound: then it is shown of which parts that holds; 0 if a new one was found, and -1 otherwise.
         */
        private int sees(long must, long mustNot, int place, int bound) {
            int told = ground == null || place >= PLACES ? 0 : ground.toldBelow(place);
            if (bound >= told) {
                return NONE;
            }
            int row = firstRow(must, mustNot, ENDLESS, place);
            int size = row < 0 ? ENDLESS : ground.rowsAt(place).sizeOf(row);
            boolean isFound = row >= 0 && takes(must, mustNot, place, row, size);
            int least = Math.min(size, told);
            if (least <= bound) {
                return isFound ? 0 : NONE;
            }
            long yes = must;
            long no = mustNot;
            for (int i = 0; i < 2 * MOST_SCHEMAS; i++) {
                long bit = Cone.bit(i % MOST_SCHEMAS);
                long lessYes = i < MOST_SCHEMAS ? yes & ~bit : yes;
                long lessNo = i < MOST_SCHEMAS ? no : no & ~bit;
                if ((lessYes != yes || lessNo != no) && firstRow(lessYes, lessNo, least, place) < 0) {
                    yes = lessYes;
                    no = lessNo;
                }
            }
            shown[0] = yes;
            shown[1] = no;
            shown[2] = 1 << place;
            for (int other = 0; other < PLACES; other++) {
                boolean isTold = ground.toldBelow(other) >= least;
                shown[2] |= isTold && firstRow(yes, no, least, other) < 0 ? 1 << other : 0;
            }
            return least;
        }

        /** The first row of a deep part at a place that is of all these and of none of those and smaller than this, or -1. */
        private int firstRow(long yes, long no, int below, int place) {
            long has = 0;
            long lacks = 0;
            for (int s = 0; s < ways.book.count; s++) {
                int at = Ways.TELLERS * (place * MOST_SCHEMAS + s);
                has |= -(yes >> s & 1) & tellers[at] | -(no >> s & 1) & tellers[at + 2];
                lacks |= -(yes >> s & 1) & tellers[at + 1] | -(no >> s & 1) & tellers[at + 3];
            }
            return ground.rowsAt(place).firstOf(has, lacks, below);
        }

        /** Takes a row for a value that was made, if it tells that this is of all these and of none of those. */
        private boolean takes(long must, long mustNot, int place, int row, int size) {
            long bits = ground.rowsAt(place).rowAt(row);
            long yes = 0;
            long no = 0;
            for (int s = 0; s < ways.book.count; s++) {
                int at = Ways.TELLERS * (place * MOST_SCHEMAS + s);
                yes |= ((bits & tellers[at]) | (~bits & tellers[at + 1])) != 0 ? Cone.bit(s) : 0;
                no |= ((bits & tellers[at + 2]) | (~bits & tellers[at + 3])) != 0 ? Cone.bit(s) : 0;
            }
            if (((must & ~yes) | (mustNot & ~no)) != 0) {
                return false;
            }
            note(yes, yes | no, size, size);
            return true;
        }

        /** The value that counts least of those that were made and are of all these and of none of those, or -1. */
        private int leastMade(long yes, long no) {
            int least = NONE;
            for (int i = 0; i < madeCount; i++) {
                boolean isLess = least < 0 || counts[2 * i] < counts[2 * least];
                if (isLess && ((yes & ~made[2 * i]) | (no & made[2 * i]) | ((yes | no) & ~made[2 * i + 1])) == 0) {
                    least = i;
                }
            }
            return least;
        }

        /** Whether a value that was made will do: where depth counts any one shows that there is one. */
        private boolean isEnough(int known, int bound) {
            return known >= 0 && (isDepth || counts[2 * known] <= bound);
        }

        /**
         * Keeps what was found of the parts of a frame, and what they cost at least. If it is seen that this is too much,
         * though the clauses did not tell, they are told now.
         */
        private void keepNeeds(int frame, int bound) {
            int total = 1;
            states[STATES * frame] = ways.there | (ways.isList() ? IS_LIST : 0);
            for (int i = 0; i < MOST_PARTS; i++) {
                long yes = ways.needs[i];
                long no = ways.needs[MOST_PARTS + i];
                int cost = (ways.there >> i & 1) == 1 ? boundOf(yes, no, ways.isList() ? IN_LIST : i) : 0;
                asks[ASKS * frame + 2 + 2 * i] = yes;
                asks[ASKS * frame + 3 + 2 * i] = no;
                states[STATES * frame + 1 + i] = cost;
                total = isDepth ? Math.max(total, 1 + cost) : total + cost;
            }
            for (int i = 0; i < MOST_PARTS && total > bound; i++) {
                states[STATES * frame] = NONE;
                remind(frame, i);
            }
        }

        /** Tells the clauses what is known of what a part of a frame costs. */
        private void remind(int frame, int part) {
            int cost = states[STATES * frame + 1 + part];
            int place = ways.isList() ? IN_LIST : part;
            long yes = asks[ASKS * frame + 2 + 2 * part];
            long no = asks[ASKS * frame + 3 + 2 * part];
            for (int i = FACT * (factCount - 1); i >= 0 && cost > LEAST_DEEP; i -= FACT) {
                boolean isSuch = (int) facts[i + 2] == cost && (facts[i + 2] >> WHERE + place & 1) == 1;
                if (isSuch && ways.isSo(part, facts[i], facts[i + 1])) {
                    ways.tellCost(facts[i], facts[i + 1], facts[i + 2]);
                    // What is missed is told ahead from now on.
                    for (int k = 0; k < FACT; k++) {
                        long other = facts[FACT * (factCount - 1) + k];
                        facts[FACT * (factCount - 1) + k] = facts[i + k];
                        facts[i + k] = other;
                    }
                    return;
                }
            }
            if (cost > LEAST_DEEP) {
                ways.tellCost(yes, no, 1L << WHERE + place | cost);
            }
        }

        /** Looks into the part that costs least of those that are not settled; if all are, a value is made of them. */
        private void goOn(int frame) {
            int next = NONE;
            int least = ENDLESS;
            boolean isList = (states[STATES * frame] & IS_LIST) != 0;
            for (int i = 0; i < MOST_PARTS; i++) {
                long yes = asks[ASKS * frame + 2 + 2 * i];
                long no = asks[ASKS * frame + 3 + 2 * i];
                int before = states[STATES * frame + 1 + i];
                int bound = before == 0 ? 0 : boundOf(yes, no, isList ? IN_LIST : i);
                if (bound > before) {
                    // It costs more than was thought, so that another way may be better.
                    states[STATES * frame] = NONE;
                    return;
                }
                int known = before == 0 ? NONE : leastMade(yes, no);
                if (before > 0 && !isEnough(known, bound) && bound < least) {
                    least = bound;
                    next = i;
                }
            }
            if (next < 0) {
                make(frame);
                states[STATES * frame] = NONE;
            } else if (frames < MOST_FRAMES) {
                push(asks[ASKS * frame + 2 + 2 * next], asks[ASKS * frame + 3 + 2 * next], isList ? IN_LIST : next);
            } else {
                isStuck = true;
            }
        }

        /** Makes a value of the least parts that are as they need to be. */
        private void make(int frame) {
            int there = states[STATES * frame] & ALL_PLACES;
            boolean isList = (states[STATES * frame] & IS_LIST) != 0;
            int count = 1;
            int size = 1;
            boolean isKnown = true;
            long own = 0;
            for (int s = 0; s < ways.book.count; s++) {
                boolean isKind = ways.book.kinds[s] == (isList ? 'l' : 'o');
                own |= isKind && ((ways.book.needed(s) & ~there) | (ways.book.barred(s) & there)) == 0 ? Cone.bit(s) : 0;
            }
            for (int i = 0; i < MOST_PARTS; i++) {
                int part = (there >> i & 1) == 0 ? NONE : leastMade(asks[ASKS * frame + 2 + 2 * i], asks[ASKS * frame + 3 + 2 * i]);
                if (part < 0) {
                    // All parts that are there were made.
                    continue;
                }
                count = isDepth ? Math.max(count, 1 + counts[2 * part]) : count + counts[2 * part];
                size = Math.min(size + counts[2 * part + 1], MOST_SIZE);
                isKnown &= made[2 * part + 1] == -1L;
                for (int s = 0; s < ways.book.count; s++) {
                    int item = Cone.holds(own, s) ? ways.book.below(s, i) : NONE;
                    own &= item < 0 || Cone.holds(made[2 * part], item) ? -1L : ~Cone.bit(s);
                }
            }
            // If not all is known of the parts, it is what was asked for.
            long yes = asks[ASKS * frame];
            note(isKnown ? ways.logic.joinedUp(own) : yes, isKnown ? -1L : yes | asks[ASKS * frame + 1], count, size);
        }

        /**
         * Tells less of what can't be met below a bound, as long as it still can't, then raises the bound as far as it can
         * be, and keeps that. Where a part that it hangs on can be told to cost more, that is done first.
         */
        private void narrow(int below, int nested) {
            long yes = ways.coreYes;
            long no = ways.coreNo;
            for (int i = 0; i < 2 * MOST_SCHEMAS; i++) {
                long bit = Cone.bit(i % MOST_SCHEMAS);
                long lessYes = i < MOST_SCHEMAS ? yes & ~bit : yes;
                long lessNo = i < MOST_SCHEMAS ? no : no & ~bit;
                boolean goesOn = (lessYes | lessNo) != 0 && (lessYes != yes || lessNo != no);
                // What was made shows at once that too little would be asked.
                int known = goesOn ? leastMade(lessYes, lessNo) : NONE;
                goesOn &= known < 0 || counts[2 * known] >= below;
                for (int n = 0; n <= TRIES && goesOn; n++) {
                    if (!ways.isMet(lessYes, lessNo, below, FEW_FAILS)) {
                        yes = ways.coreYes;
                        no = ways.coreNo;
                        goesOn = false;
                    } else {
                        goesOn = !ways.isUnsure && nested < NESTED && n < TRIES && counters(nested + 1);
                    }
                }
            }
            int bound = below;
            if (!ways.isMet(yes, no, HUGE, FEW_FAILS)) {
                bound = ENDLESS;
            }
            int most = nested > 0 ? below + RISE : isDepth ? HUGE : MOST_SIZE;
            int step = 1;
            boolean rises = true;
            for (int i = 0; i < Long.SIZE && step > 0 && bound < ENDLESS; i++) {
                boolean isRaised = bound + step <= most && !ways.isMet(yes, no, bound + step, FEW_FAILS);
                bound += isRaised ? step : 0;
                rises &= isRaised;
                step = rises ? 2 * step : step / 2;
            }
            learn(yes, no, bound, EVERYWHERE);
        }

        /** Looks for a part, of those that were found just now, that costs more than is known; tells whether there is one. */
        private boolean counters(int nested) {
            ways.lift();
            int there = ways.there;
            int place = ways.isList() ? IN_LIST : NONE;
            int from = 2 * MOST_PARTS * nested;
            System.arraycopy(ways.needs, 0, needs, from, 2 * MOST_PARTS);
            for (int i = 0; i < MOST_PARTS; i++) {
                long yes = needs[from + i];
                long no = needs[from + MOST_PARTS + i];
                int bound = (there >> i & 1) == 1 ? boundOf(yes, no, place < 0 ? i : place) : 0;
                if (bound < LEAST_DEEP) {
                    continue;
                }
                if (bound >= HUGE) {
                    learn(yes, no, ENDLESS, EVERYWHERE);
                    return true;
                }
                int seen = sees(yes, no, place < 0 ? i : place, bound);
                if (seen > 0) {
                    learn(shown[0], shown[1], seen, (int) shown[2]);
                }
                if (seen >= 0) {
                    return true;
                }
                int known = leastMade(yes, no);
                if (!isEnough(known, bound) && !ways.isMet(yes, no, bound + 1, FEW_FAILS)) {
                    narrow(bound + 1, nested);
                    return true;
                }
            }
            return false;
        }

        /** Keeps what no deep part at some places counts less than that is of all these and of none of those; forgets what follows. */
        private void learn(long yes, long no, int bound, int places) {
            int kept = 0;
            for (int i = 0; i < FACT * factCount; i += FACT) {
                int other = (int) facts[i + 2];
                boolean follows = other <= bound && ((facts[i + 2] >> WHERE) & ~places) == 0
                        && ((yes & ~facts[i]) | (no & ~facts[i + 1])) == 0;
                levels[Math.min(other, MOST_LEVELS - 1)] -= follows ? 1 : 0;
                System.arraycopy(facts, i, facts, kept, FACT);
                kept += follows ? 0 : FACT;
            }
            factCount = kept / FACT;
            isStuck |= FACT * factCount >= facts.length;
            if (isStuck) {
                return;
            }
            facts[kept] = yes;
            facts[kept + 1] = no;
            facts[kept + 2] = (long) places << WHERE | bound;
            factCount++;
            levels[Math.min(bound, MOST_LEVELS - 1)]++;
            ways.tellCost(yes, no, facts[kept + 2]);
        }

        /**
         * If depth counts and no fact has some bound, those with greater ones stand by each other alone: a value that is
         * the least deep of all that are against them would have a part that is. So there is none.
         */
        private void findEndless() {
            int gap = LEAST_DEEP + 1;
            for (int level = gap; level < MOST_LEVELS && isDepth && levels[level] > 0; level++) {
                gap = level + 1;
            }
            for (int i = 0; i < FACT * factCount && isDepth && gap < MOST_LEVELS - 1; i += FACT) {
                int bound = (int) facts[i + 2];
                if (bound > gap && bound < ENDLESS) {
                    levels[Math.min(bound, MOST_LEVELS - 1)]--;
                    facts[i + 2] = (long) EVERYWHERE << WHERE | ENDLESS;
                    ways.tellCost(facts[i], facts[i + 1], facts[i + 2]);
                }
            }
        }
    }
}
