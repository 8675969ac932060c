import java.util.Arrays;
import java.util.NoSuchElementException;

/** A language of schemas for values that nest; ../shared/DOC.md tells what each call promises. */
public final class Formwarden {
    private static final int LABELS = 4;
    private static final int MOST_PARTS = 4;
    private static final int MOST_DEPTH = 6;
    private static final int MOST_VALUES = 200;
    private static final int MOST_SCHEMAS = 50;
    private static final int MOST_STEPS = 8;
    private static final int MOST_SAMPLES = 8;
    private static final int MOST_SIZE = 1000;
    private static final int NAMES = 6;
    private static final int ALL_PLACES = 15;
    /** Where a part can stand: at a label, or, as the last place, in a list. */
    private static final int IN_LIST = LABELS;
    private static final int PLACES = LABELS + 1;
    private static final int NONE = -1;

    private final Values pool = new Values();
    private final Schemas book = new Schemas();
    private final Verdicts verdicts = new Verdicts(pool, book);
    private final Schemas toldBook = new Schemas();
    private final Verdicts told = new Verdicts(pool, toldBook);
    private final Search search = new Search(book, verdicts);
    private final Makers makers = new Makers(pool, book);
    private final int[] samples = new int[MOST_SAMPLES];
    private final int[] row = new int[MOST_PARTS];
    private int sampleCount;
    private int clashes;

    public Formwarden() {
    }

    // ---- values

    public int value(char kind, int number) throws IllegalArgumentException, IllegalStateException {
        if (!isLeaf(kind, number)) {
            throw new IllegalArgumentException("no such kind, or the number is out of range");
        }
        clearRow();
        pool.dropDrafts();
        return kept(pool.draft(kind, kind == 'z' ? 0 : number, row, 0));
    }

    public int list(int first, int second, int third, int fourth)
            throws IndexOutOfBoundsException, IllegalArgumentException, UnsupportedOperationException,
            IllegalStateException {
        if (!isPart(first) || !isPart(second) || !isPart(third) || !isPart(fourth)) {
            throw new IndexOutOfBoundsException("no such value");
        }
        row[0] = first;
        row[1] = second;
        row[2] = third;
        row[3] = fourth;
        int length = rowLength();
        if (length < 0) {
            throw new IllegalArgumentException("-1 is told ahead of a part");
        }
        pool.dropDrafts();
        int made = pool.draft('l', length, row, 0);
        if (made < 0) {
            throw new UnsupportedOperationException("the list would be too deep");
        }
        return kept(made);
    }

    public int record() throws IllegalStateException {
        clearRow();
        pool.dropDrafts();
        return kept(pool.draft('o', 0, row, 0));
    }

    public int with(int record, int label, int value)
            throws IndexOutOfBoundsException, IllegalArgumentException, UnsupportedOperationException,
            IllegalStateException {
        if (!pool.has(record) || !isPart(value) || !isLabel(label)) {
            throw new IndexOutOfBoundsException("no such value or label");
        }
        if (!pool.isRecord(record)) {
            throw new IllegalArgumentException("it is no record");
        }
        pool.dropDrafts();
        int made = pool.labelled(record, label, value);
        if (made < 0) {
            throw new UnsupportedOperationException("the record would be too deep");
        }
        return kept(made);
    }

    public int values() {
        return pool.count;
    }

    public char kindOf(int value) throws IndexOutOfBoundsException {
        needValue(value);
        return pool.kinds[value];
    }

    public int numberOf(int value) throws IndexOutOfBoundsException {
        needValue(value);
        return pool.numbers[value];
    }

    public int part(int value, int index) throws IndexOutOfBoundsException, NoSuchElementException {
        needValue(value);
        int found = pool.at(value, index);
        if (found < 0) {
            throw new NoSuchElementException("it has no such part");
        }
        return found;
    }

    public int size(int value) throws IndexOutOfBoundsException {
        needValue(value);
        return pool.sizes[value];
    }

    // ---- schemas

    public int schema(char kind, int a, int b, int c)
            throws IllegalArgumentException, IndexOutOfBoundsException, IllegalStateException {
        if (!Schemas.isKind(kind) || !Schemas.isInRange(kind, a, b, c)) {
            throw new IllegalArgumentException("no such kind, or a number is out of range");
        }
        if (!book.hasParts(kind, a, b)) {
            throw new IndexOutOfBoundsException("no such schema as a part");
        }
        int made = book.add(kind, a, b, c);
        if (made < 0) {
            throw new IllegalStateException("there are 50 schemas");
        }
        return made;
    }

    public boolean field(int schema, int label, int item, boolean must)
            throws IndexOutOfBoundsException, IllegalArgumentException {
        if (!book.has(schema) || !isLabel(label) || (item != NONE && !book.has(item))) {
            throw new IndexOutOfBoundsException("no such schema or label");
        }
        if (book.kinds[schema] != 'o' || item >= schema) {
            throw new IllegalArgumentException("it is no record schema, or the schema has no lower number");
        }
        return book.tell(schema, label, item, must) >= 0;
    }

    public int bind(int name, int schema) throws IndexOutOfBoundsException, UnsupportedOperationException {
        if (name < 0 || name >= NAMES || !book.has(schema)) {
            throw new IndexOutOfBoundsException("no such name or schema");
        }
        if (book.leadsTo(schema, name)) {
            throw new UnsupportedOperationException("the name would come back to itself");
        }
        return book.rebind(name, schema);
    }

    public int schemas() {
        return book.count;
    }

    public boolean isOf(int value, int schema) throws IndexOutOfBoundsException {
        needValue(value);
        needSchema(schema);
        return verdicts.belongs(value, schema);
    }

    public int faults(int value, int schema) throws IndexOutOfBoundsException {
        needValue(value);
        needSchema(schema);
        toldBook.become(book);
        told.remember(value, schema);
        return (int) Math.min(told.remembered, Integer.MAX_VALUE);
    }

    public char faultAt(int index) throws IndexOutOfBoundsException {
        seekFault(index);
        return told.letter;
    }

    public int pathAt(int index) throws IndexOutOfBoundsException {
        seekFault(index);
        return told.path;
    }

    public boolean isEmpty(int schema) throws IndexOutOfBoundsException {
        needSchema(schema);
        return search.smallest(schema, NONE) == 0;
    }

    public boolean isWithin(int schema, int other) throws IndexOutOfBoundsException {
        needSchema(schema);
        needSchema(other);
        return search.smallest(schema, other) == 0;
    }

    public int gap(int schema, int other) throws IndexOutOfBoundsException, NoSuchElementException {
        needSchema(schema);
        needSchema(other);
        int found = search.smallest(schema, other);
        if (found == 0) {
            throw new NoSuchElementException("the schema is within the other one");
        }
        return found;
    }

    public int least(int schema) throws IndexOutOfBoundsException, NoSuchElementException {
        needSchema(schema);
        int found = search.smallest(schema, NONE);
        if (found == 0) {
            throw new NoSuchElementException("the schema has no values");
        }
        return found;
    }

    // ---- views, merging, samples

    public int step(char kind, int a, int b)
            throws IllegalArgumentException, IndexOutOfBoundsException, IllegalStateException {
        if (!isLabel(a) || !Makers.takes(kind, a, b)) {
            throw new IllegalArgumentException("no such kind, label or symbol, or both labels are the same");
        }
        if (kind == 'a') {
            needValue(b);
        }
        int steps = makers.add(kind, a, b);
        if (steps < 0) {
            throw new IllegalStateException("there are 8 steps");
        }
        return steps;
    }

    public int clearSteps() {
        int before = makers.stepCount;
        makers.stepCount = 0;
        return before;
    }

    public int get(int record)
            throws IndexOutOfBoundsException, UnsupportedOperationException, IllegalStateException {
        needValue(record);
        pool.dropDrafts();
        int made = makers.viewOf(record);
        if (made < 0) {
            throw new UnsupportedOperationException("it is no record, a step does not fit, or it is too deep");
        }
        return kept(made);
    }

    public int put(int record, int view)
            throws IndexOutOfBoundsException, UnsupportedOperationException, IllegalStateException {
        needValue(record);
        needValue(view);
        pool.dropDrafts();
        int made = makers.viewOf(record) < 0 ? NONE : makers.putBack(view);
        if (made < 0) {
            throw new UnsupportedOperationException("one is no record, a step does not fit, or it is too deep");
        }
        return kept(made);
    }

    public int merge(int first, int one, int other) throws IndexOutOfBoundsException, IllegalStateException {
        needValue(first);
        needValue(one);
        needValue(other);
        pool.dropDrafts();
        int kept = kept(makers.merged(first, one, other));
        clashes = makers.clashes;
        return kept;
    }

    public int conflicts() {
        return clashes;
    }

    public int sample(int value) throws IndexOutOfBoundsException, IllegalStateException {
        needValue(value);
        if (sampleCount >= MOST_SAMPLES) {
            throw new IllegalStateException("there are 8 samples");
        }
        samples[sampleCount] = value;
        sampleCount++;
        return sampleCount;
    }

    public int clearSamples() {
        int before = sampleCount;
        sampleCount = 0;
        return before;
    }

    public int infer() throws IllegalStateException {
        int found = makers.found(samples, sampleCount);
        if (found < 0) {
            throw new IllegalStateException("there would be more than 50 schemas");
        }
        return found;
    }

    public boolean fits(int schema) throws IndexOutOfBoundsException {
        needSchema(schema);
        for (int i = 0; i < sampleCount; i++) {
            if (!verdicts.belongs(samples[i], schema)) {
                return false;
            }
        }
        return true;
    }

    public long gaps(int schema) throws IndexOutOfBoundsException {
        needSchema(schema);
        long sum = 0;
        for (int other = 0; other < book.count; other++) {
            sum += search.smallest(schema, other);
        }
        return sum;
    }

    public float share(int schema) throws IndexOutOfBoundsException, ArithmeticException {
        needSchema(schema);
        if (pool.count == 0) {
            throw new ArithmeticException("there are no values");
        }
        int those = 0;
        for (int v = 0; v < pool.count; v++) {
            if (verdicts.belongs(v, schema)) {
                those++;
            }
        }
        return (float) those / (float) pool.count;
    }

    public double meanSize() throws ArithmeticException {
        if (pool.count == 0) {
            throw new ArithmeticException("there are no values");
        }
        int sum = 0;
        for (int v = 0; v < pool.count; v++) {
            sum += pool.sizes[v];
        }
        return (double) sum / (double) pool.count;
    }

    public boolean isBorneOut(int schema, int other) throws IndexOutOfBoundsException {
        needSchema(schema);
        needSchema(other);
        int there = search.smallest(schema, other);
        int back = search.smallest(other, schema);
        for (int v = 0; v < pool.count; v++) {
            if (!bearsOut(v, schema, other, there) || !bearsOut(v, other, schema, back)) {
                return false;
            }
        }
        return true;
    }

    /** Whether a value is as told of a schema and of its gap to another one, 0 if it is within. */
    private boolean bearsOut(int value, int schema, int other, int gapSize) {
        boolean belongs = verdicts.belongs(value, schema);
        if (belongs != (verdicts.howMany(value, schema) == 0)) {
            return false;
        }
        return !belongs || verdicts.belongs(value, other) || (gapSize > 0 && gapSize <= pool.sizes[value]);
    }

    private void needValue(int value) {
        if (!pool.has(value)) {
            throw new IndexOutOfBoundsException("no such value");
        }
    }

    private void needSchema(int schema) {
        if (!book.has(schema)) {
            throw new IndexOutOfBoundsException("no such schema");
        }
    }

    private void seekFault(int index) {
        if (index < 0 || index >= told.remembered) {
            throw new IndexOutOfBoundsException("no such fault");
        }
        told.seek(index);
    }

    /** Keeps what was made; nothing is made if there is no room. */
    private int kept(int made) {
        int kept = pool.keep(made);
        if (kept < 0) {
            throw new IllegalStateException("there are 200 values");
        }
        return kept;
    }

    private boolean isPart(int value) {
        return value == NONE || pool.has(value);
    }

    private static boolean isLabel(int label) {
        return label >= 0 && label < LABELS;
    }

    private static boolean isLeaf(char kind, int number) {
        switch (kind) {
            case 'z':
                return true;
            case 'b':
                return number >= 0 && number <= 1;
            case 'n':
                return number >= -99 && number <= 99;
            case 's':
                return number >= 0 && number <= 9;
            default:
                return false;
        }
    }

    private void clearRow() {
        Arrays.fill(row, NONE);
    }

    /** The number of parts told in the row, or -1 if one stands behind a gap. */
    private int rowLength() {
        int length = 0;
        for (int i = 0; i < MOST_PARTS; i++) {
            if (row[i] >= 0) {
                if (length < i) {
                    return NONE;
                }
                length++;
            }
        }
        return length;
    }

    /**
     * The values, and drafts of values behind them: a call that may fail late works on drafts,
     * and keeps those that its answer has only when nothing can go wrong any more.
     */
    private static final class Values {
        private static final int DRAFTS = 400;
        private static final int ROOM = MOST_VALUES + DRAFTS;

        final char[] kinds = new char[ROOM];
        final int[] numbers = new int[ROOM];
        final int[] sizes = new int[ROOM];
        private final int[] parts = new int[MOST_PARTS * ROOM];
        private final int[] depths = new int[ROOM];
        private final int[] places = new int[ROOM];
        private final int[] fresh = new int[DRAFTS];
        private final int[] work = new int[MOST_PARTS];
        int count;
        private int drafts;
        private int freshCount;

        boolean has(int value) {
            return value >= 0 && value < count;
        }

        private boolean stands(int value) {
            return value >= 0 && (value < count || (value >= MOST_VALUES && value < MOST_VALUES + drafts));
        }

        boolean isRecord(int value) {
            return stands(value) && kinds[value] == 'o';
        }

        boolean isList(int value) {
            return stands(value) && kinds[value] == 'l';
        }

        /** The part at a place or label, or -1. */
        int at(int value, int index) {
            if (value < 0 || value >= ROOM || index < 0 || index >= MOST_PARTS) {
                return NONE;
            }
            return parts[value * MOST_PARTS + index];
        }

        void dropDrafts() {
            drafts = 0;
        }

        /** The value with these parts, kept or drafted, or -1 if it would be too deep. */
        int draft(char kind, int number, int[] row, int from) {
            if (from < 0 || from + MOST_PARTS > row.length) {
                return NONE;
            }
            int depth = 1;
            int size = 1;
            for (int i = 0; i < MOST_PARTS; i++) {
                int part = row[from + i];
                if (stands(part)) {
                    depth = Math.max(depth, depths[part] + 1);
                    size += sizes[part];
                }
            }
            if (depth > MOST_DEPTH) {
                return NONE;
            }
            int same = findSame(kind, number, row, from);
            if (same >= 0) {
                return same;
            }
            if (drafts >= DRAFTS) {
                return NONE;
            }
            int made = MOST_VALUES + drafts;
            drafts++;
            fill(made, kind, number, depth, size);
            System.arraycopy(row, from, parts, made * MOST_PARTS, MOST_PARTS);
            places[made] = NONE;
            return made;
        }

        private void fill(int value, char kind, int number, int depth, int size) {
            kinds[value] = kind;
            numbers[value] = number;
            depths[value] = depth;
            sizes[value] = size;
        }

        private int findSame(char kind, int number, int[] row, int from) {
            for (int v = 0; v < MOST_VALUES + drafts; v++) {
                int place = v * MOST_PARTS;
                boolean kept = v < count || v >= MOST_VALUES;
                if (kept && kinds[v] == kind && numbers[v] == number
                        && parts[place] == row[from] && parts[place + 1] == row[from + 1]
                        && parts[place + 2] == row[from + 2] && parts[place + 3] == row[from + 3]) {
                    return v;
                }
            }
            return NONE;
        }

        /** What the record becomes with a value, or -1 for none, at a label; -1 if that is too deep. */
        int labelled(int record, int label, int value) {
            if (!isRecord(record) || label < 0 || label >= LABELS) {
                return NONE;
            }
            System.arraycopy(parts, record * MOST_PARTS, work, 0, MOST_PARTS);
            work[label] = value;
            return draft('o', labelBits(work, 0), work, 0);
        }

        static int labelBits(int[] row, int from) {
            int bits = 0;
            for (int i = 0; i < LABELS; i++) {
                if (row[from + i] >= 0) {
                    bits |= 1 << i;
                }
            }
            return bits;
        }

        /** Numbers a draft and its drafted parts, the parts first; -1, and nothing done, if there is no room. */
        int keep(int value) {
            if (!stands(value)) {
                return NONE;
            }
            if (value < MOST_VALUES) {
                return value;
            }
            freshCount = 0;
            place(value, 1);
            if (count + freshCount > MOST_VALUES) {
                return NONE;
            }
            for (int i = 0; i < freshCount; i++) {
                move(fresh[i]);
            }
            return places[value];
        }

        private void place(int value, int depth) {
            if (value < MOST_VALUES || places[value] >= 0 || depth > MOST_DEPTH || freshCount >= DRAFTS) {
                return;
            }
            for (int i = 0; i < MOST_PARTS; i++) {
                place(parts[value * MOST_PARTS + i], depth + 1);
            }
            places[value] = count + freshCount;
            fresh[freshCount] = value;
            freshCount++;
        }

        private void move(int value) {
            int place = count;
            fill(place, kinds[value], numbers[value], depths[value], sizes[value]);
            for (int i = 0; i < MOST_PARTS; i++) {
                int part = parts[value * MOST_PARTS + i];
                parts[place * MOST_PARTS + i] = part >= MOST_VALUES ? places[part] : part;
            }
            count++;
        }
    }

    /** The schemas and what the names are bound to. */
    private static final class Schemas {
        /** The sort of what all values are of. */
        private static final int ALL = 1;

        final char[] kinds = new char[MOST_SCHEMAS];
        final int[] firsts = new int[MOST_SCHEMAS];
        final int[] seconds = new int[MOST_SCHEMAS];
        final int[] thirds = new int[MOST_SCHEMAS];
        final int[] items = new int[MOST_SCHEMAS * LABELS];
        /** The labels, as bits, that must be there, and those that are told. */
        private final int[] musts = new int[MOST_SCHEMAS];
        private final int[] told = new int[MOST_SCHEMAS];
        final int[] bound = {NONE, NONE, NONE, NONE, NONE, NONE};
        /** Each schema behind all that it is joined from without a list or record between. */
        final int[] order = new int[MOST_SCHEMAS];
        int count;
        /** Grows when a schema comes to mean something else, so that what was worked out can be thrown away. */
        int edition;
        /** The schemas that are seen to have no values, and all values, from how they are written alone. */
        long never;
        long always;
        private int foldedEdition = NONE;
        private int foldedCount;
        /** What schemas come to, as it is seen from how they are written: a number each, the contrary one with a minus. */
        private final int[] sorts = new int[MOST_SCHEMAS];
        private final int[] oldSorts = new int[MOST_SCHEMAS];
        /** The first schema that comes to the same as each. */
        final int[] stands = new int[MOST_SCHEMAS];

        boolean has(int schema) {
            return schema >= 0 && schema < count;
        }

        static boolean isKind(char kind) {
            switch (kind) {
                case 'a':
                case '0':
                case 'z':
                case 'b':
                case 'n':
                case 's':
                case 'l':
                case 'o':
                case 'u':
                case '&':
                case '!':
                case 'r':
                    return true;
                default:
                    return false;
            }
        }

        static boolean isInRange(char kind, int a, int b, int c) {
            switch (kind) {
                case 'n':
                    return a >= -99 && a <= b && b <= 99;
                case 's':
                    return a >= 0 && a <= 1023;
                case 'l':
                    return b >= 0 && b <= c && c <= MOST_PARTS;
                case 'o':
                    return a == 0 || a == 1;
                case 'r':
                    return a >= 0 && a < NAMES;
                default:
                    return true;
            }
        }

        boolean hasParts(char kind, int a, int b) {
            switch (kind) {
                case 'u':
                case '&':
                    return has(a) && has(b);
                case '!':
                case 'l':
                    return has(a);
                default:
                    return true;
            }
        }

        /** The new schema, or -1 if there is no room. */
        int add(char kind, int a, int b, int c) {
            if (count >= MOST_SCHEMAS) {
                return NONE;
            }
            int made = count;
            kinds[made] = kind;
            firsts[made] = a;
            seconds[made] = b;
            thirds[made] = c;
            for (int label = 0; label < LABELS; label++) {
                items[made * LABELS + label] = NONE;
            }
            musts[made] = 0;
            told[made] = 0;
            order[made] = made;
            count++;
            return made;
        }

        /** Tells a label, and returns what was told before, or -1. */
        int tell(int schema, int label, int item, boolean must) {
            int place = schema * LABELS + label;
            int before = items[place];
            items[place] = item;
            int bit = 1 << label;
            musts[schema] = must && item >= 0 ? musts[schema] | bit : musts[schema] & ~bit;
            told[schema] = item >= 0 ? told[schema] | bit : told[schema] & ~bit;
            edition++;
            return before;
        }

        /** The schema told for a label, or -1. */
        int itemAt(int schema, int label) {
            if (schema < 0 || schema >= count || label < 0 || label >= LABELS) {
                return NONE;
            }
            return items[schema * LABELS + label];
        }

        boolean mustHave(int schema, int label) {
            return schema >= 0 && schema < count && label >= 0 && label < LABELS
                    && (musts[schema] >> label & 1) == 1;
        }

        /** The schema for the part at a place of a list or at a label, or -1. */
        int below(int schema, int index) {
            if (kinds[schema] == 'l') {
                return firsts[schema];
            }
            return index < 0 || index >= LABELS ? NONE : items[schema * LABELS + index];
        }

        /** The places of a list or the labels, as bits, at which something must be. */
        int needed(int schema) {
            return kinds[schema] == 'l' ? (1 << seconds[schema]) - 1 : musts[schema];
        }

        /** The places of a list or the labels, as bits, at which nothing must be. */
        int barred(int schema) {
            if (kinds[schema] == 'l') {
                return ALL_PLACES & -(1 << thirds[schema]);
            }
            return firsts[schema] == 1 ? ALL_PLACES & ~told[schema] : 0;
        }

        /** The labels, as bits, of which a record schema tells something. */
        int tells(int schema) {
            return told[schema];
        }

        boolean isClosed(int schema) {
            return schema >= 0 && schema < count && firsts[schema] == 1;
        }

        /** The schema to which the name of an 'r' is bound, or -1. */
        int target(int schema) {
            if (schema < 0 || schema >= count || firsts[schema] < 0 || firsts[schema] >= NAMES) {
                return NONE;
            }
            return bound[firsts[schema]];
        }

        int rebind(int name, int schema) {
            int before = bound[name];
            bound[name] = schema;
            edition++;
            arrange();
            return before;
        }

        /** Whether a name is met from the schema by joins and names alone. */
        boolean leadsTo(int schema, int name) {
            long met = 1L << schema;
            long before = 0;
            for (int pass = 0; pass < MOST_SCHEMAS && met != before; pass++) {
                before = met;
                for (int s = 0; s < count; s++) {
                    if ((met >> s & 1) == 1) {
                        met |= joined(s);
                    }
                }
            }
            for (int s = 0; s < count; s++) {
                if ((met >> s & 1) == 1 && kinds[s] == 'r' && firsts[s] == name) {
                    return true;
                }
            }
            return false;
        }

        /** The bits of the schemas that tell of the same value as this one. */
        long joined(int schema) {
            switch (kinds[schema]) {
                case 'u':
                case '&':
                    return 1L << firsts[schema] | 1L << seconds[schema];
                case '!':
                    return 1L << firsts[schema];
                case 'r':
                    return target(schema) < 0 ? 0 : 1L << target(schema);
                default:
                    return 0;
            }
        }

        /** The bits of the schemas that tell of the parts of a value of this one. */
        long nested(int schema) {
            if (kinds[schema] == 'l') {
                return 1L << firsts[schema];
            }
            long bits = 0;
            if (kinds[schema] == 'o') {
                for (int label = 0; label < LABELS; label++) {
                    int item = itemAt(schema, label);
                    bits |= item < 0 ? 0 : 1L << item;
                }
            }
            return bits;
        }

        /** Finds the schemas that are always or never met. */
        void fold() {
            if (foldedEdition == edition && foldedCount == count) {
                return;
            }
            foldedEdition = edition;
            foldedCount = count;
            never = 0;
            always = 0;
            boolean grown = true;
            for (int pass = 0; pass <= MOST_SCHEMAS && grown; pass++) {
                long before = never | always;
                for (int s = 0; s < count; s++) {
                    never |= isNever(s) ? 1L << s : 0;
                    always |= isAlways(s) ? 1L << s : 0;
                }
                grown = (never | always) != before;
            }
        }

        private boolean isNever(int s) {
            int a = firsts[s];
            switch (kinds[s]) {
                case '0':
                    return true;
                case 's':
                    return a == 0;
                case 'l':
                    return seconds[s] > 0 && isIn(never, a);
                case 'o':
                    return mustHaveNever(s);
                case 'u':
                    return isIn(never, a) && isIn(never, seconds[s]);
                case '&':
                    return isIn(never, a) || isIn(never, seconds[s]) || areOpposed(a, seconds[s]);
                case '!':
                    return isIn(always, a);
                case 'r':
                    return target(s) < 0 || isIn(never, target(s));
                default:
                    return false;
            }
        }

        private boolean isAlways(int s) {
            int a = firsts[s];
            switch (kinds[s]) {
                case 'a':
                    return true;
                case 'u':
                    return isIn(always, a) || isIn(always, seconds[s]) || areOpposed(a, seconds[s]);
                case '&':
                    return isIn(always, a) && isIn(always, seconds[s]);
                case '!':
                    return isIn(never, a);
                case 'r':
                    return isIn(always, target(s));
                default:
                    return false;
            }
        }

        private boolean mustHaveNever(int s) {
            for (int label = 0; label < LABELS; label++) {
                if (mustHave(s, label) && isIn(never, itemAt(s, label))) {
                    return true;
                }
            }
            return false;
        }

        private boolean areOpposed(int a, int b) {
            return (kinds[a] == '!' && firsts[a] == b) || (kinds[b] == '!' && firsts[b] == a);
        }

        private static boolean isIn(long bits, int schema) {
            return schema >= 0 && (bits >> schema & 1) == 1;
        }

        private void arrange() {
            long placed = 0;
            int next = 0;
            for (int pass = 0; pass < MOST_SCHEMAS && next < count; pass++) {
                for (int s = 0; s < count && next < count; s++) {
                    if ((placed >> s & 1) == 0 && (joined(s) & ~placed) == 0) {
                        placed |= 1L << s;
                        order[next] = s;
                        next++;
                    }
                }
            }
        }

        /** Whether the numbers or symbols of a leaf's schema have this one. */
        boolean takesNumber(int schema, int number) {
            switch (kinds[schema]) {
                case 'n':
                    return number >= firsts[schema] && number <= seconds[schema];
                case 's':
                    return number >= 0 && number <= 9 && (firsts[schema] >> number & 1) == 1;
                default:
                    return true;
            }
        }

        /** Takes back all schemas from this number on. */
        void cut(int number) {
            if (number >= 0 && number < count) {
                count = number;
            }
        }

        void become(Schemas other) {
            System.arraycopy(other.kinds, 0, kinds, 0, MOST_SCHEMAS);
            System.arraycopy(other.firsts, 0, firsts, 0, MOST_SCHEMAS);
            System.arraycopy(other.seconds, 0, seconds, 0, MOST_SCHEMAS);
            System.arraycopy(other.thirds, 0, thirds, 0, MOST_SCHEMAS);
            System.arraycopy(other.items, 0, items, 0, MOST_SCHEMAS * LABELS);
            System.arraycopy(other.musts, 0, musts, 0, MOST_SCHEMAS);
            System.arraycopy(other.told, 0, told, 0, MOST_SCHEMAS);
            System.arraycopy(other.bound, 0, bound, 0, NAMES);
            System.arraycopy(other.order, 0, order, 0, MOST_SCHEMAS);
            count = other.count;
            edition = other.edition;
            foldedEdition = NONE;
        }

        /** Becomes what another one tells, but where schemas come to the same by how they are written, the first one stands for all. */
        void becomePlain(Schemas other) {
            become(other);
            fold();
            Arrays.fill(sorts, 0);
            boolean isStable = false;
            for (int pass = 0; pass <= 2 * MOST_SCHEMAS && !isStable; pass++) {
                isStable = sortOut();
            }
            for (int s = 0; s < count && !isStable; s++) {
                sorts[s] = ALL + 1 + s;
            }
            tellFirsts();
        }

        /** Sorts schemas by how they are written, and by how what they are made of was sorted; returns whether all stayed the same. */
        private boolean sortOut() {
            System.arraycopy(sorts, 0, oldSorts, 0, MOST_SCHEMAS);
            int most = ALL;
            for (int i = 0; i < count; i++) {
                int s = order[i];
                sorts[s] = plainSort(s);
                for (int k = 0; k < i && sorts[s] == 0; k++) {
                    int t = order[k];
                    sorts[s] = !isLike(s, t) ? 0 : (kinds[s] == 'u') == (kinds[t] == 'u') ? sorts[t] : -sorts[t];
                }
                if (sorts[s] == 0) {
                    most++;
                    sorts[s] = kinds[s] == 'u' ? -most : most;
                }
            }
            for (int s = 0; s < count; s++) {
                if (sorts[s] != oldSorts[s]) {
                    return false;
                }
            }
            return true;
        }

        /** The sort of a schema that comes to the same as one that it is made of, or as all or none of the values; otherwise 0. */
        private int plainSort(int s) {
            int a = firsts[s];
            int b = seconds[s];
            if (isIn(never | always, s)) {
                return isIn(always, s) ? ALL : -ALL;
            }
            switch (kinds[s]) {
                case 'r':
                    return target(s) < 0 ? -ALL : sorts[target(s)];
                case '!':
                    return -sorts[a];
                case 'u':
                    return -metSort(-sorts[a], -sorts[b]);
                case '&':
                    return metSort(sorts[a], sorts[b]);
                case 'l':
                    return b > 0 && oldSorts[a] == -ALL ? -ALL : 0;
                case 'o':
                    return mustHaveNone(s) ? -ALL : 0;
                default:
                    return 0;
            }
        }

        private static int metSort(int one, int other) {
            if (one == -ALL || other == -ALL || one == -other) {
                return -ALL;
            }
            if (one == ALL || one == other) {
                return other;
            }
            return other == ALL ? one : 0;
        }

        private boolean mustHaveNone(int s) {
            for (int label = 0; label < LABELS; label++) {
                if (mustHave(s, label) && sortAt(s, label) == -ALL) {
                    return true;
                }
            }
            return false;
        }

        /** The sort of what can be at a label. */
        private int sortAt(int s, int label) {
            int item = items[s * LABELS + label];
            return item >= 0 ? oldSorts[item] : firsts[s] == 1 ? -ALL : ALL;
        }

        /** Whether two schemas of which neither comes to less are written alike; a union is the contrary of a meet of contraries. */
        private boolean isLike(int s, int t) {
            char kind = kinds[s];
            if (kind == 'u' || kind == '&') {
                int sign = kind == kinds[t] ? 1 : -1;
                int a = sign * sorts[firsts[s]];
                int b = sign * sorts[seconds[s]];
                int c = kinds[t] == 'u' || kinds[t] == '&' ? sorts[firsts[t]] : 0;
                int d = c == 0 ? 0 : sorts[seconds[t]];
                return (a == c && b == d) || (a == d && b == c);
            }
            if (kind != kinds[t]) {
                return false;
            }
            switch (kind) {
                case 'n':
                    return firsts[s] == firsts[t] && seconds[s] == seconds[t];
                case 's':
                    return firsts[s] == firsts[t];
                case 'l':
                    return seconds[s] == seconds[t] && thirds[s] == thirds[t]
                            && (thirds[s] == 0 || oldSorts[firsts[s]] == oldSorts[firsts[t]]);
                case 'o':
                    return musts[s] == musts[t] && sortAt(s, 0) == sortAt(t, 0) && sortAt(s, 1) == sortAt(t, 1)
                            && sortAt(s, 2) == sortAt(t, 2) && sortAt(s, 3) == sortAt(t, 3);
                default:
                    return kind != '!' && kind != 'r';
            }
        }

        /** Tells of the first one of each sort instead of the others. */
        private void tellFirsts() {
            for (int i = count - 1; i >= 0; i--) {
                int s = order[i];
                for (int k = i; k >= 0; k--) {
                    stands[s] = sorts[order[k]] == sorts[s] ? order[k] : stands[s];
                }
            }
            for (int s = 0; s < count; s++) {
                if (kinds[s] == 'u' || kinds[s] == '&') {
                    seconds[s] = stands[seconds[s]];
                    firsts[s] = stands[firsts[s]];
                } else if (kinds[s] == '!' || kinds[s] == 'l') {
                    firsts[s] = stands[firsts[s]];
                }
                never |= sorts[s] == -ALL ? 1L << s : 0;
                always |= sorts[s] == ALL ? 1L << s : 0;
            }
            for (int i = 0; i < count * LABELS; i++) {
                items[i] = items[i] < 0 ? NONE : stands[items[i]];
            }
            for (int name = 0; name < NAMES; name++) {
                bound[name] = bound[name] < 0 ? NONE : stands[bound[name]];
            }
        }
    }

    /**
     * Which values are of which schemas, and what they lack, each worked out by its own rules, and once
     * until a schema changes. Faults can be more than could be listed, so they are counted for each value
     * and schema, and the one at an index is sought down along the counts. A union asks which of two
     * counts is smaller, so they are kept in full, in digits of 60 bits: '&' can double a count some
     * fifty times on each of six levels.
     */
    private static final class Verdicts {
        private static final int DIGITS = 6;
        private static final int DIGIT_BITS = 60;
        private static final long MANY = 1L << DIGIT_BITS;
        private static final int MOST_SEEKING = 1000;

        private final Values pool;
        private final Schemas book;
        private final long[] bits = new long[MOST_VALUES];
        private final long[] counts = new long[MOST_VALUES * MOST_SCHEMAS * DIGITS];
        private final int[] editions = new int[MOST_VALUES];
        private final int[] filled = new int[MOST_VALUES];
        private int value = NONE;
        private int schema = NONE;
        private long left;
        /** How many faults were found last; there can be more than an int holds. */
        long remembered;
        char letter;
        int path;

        Verdicts(Values pool, Schemas book) {
            this.pool = pool;
            this.book = book;
        }

        boolean belongs(int ofValue, int ofSchema) {
            if (!pool.has(ofValue) || !book.has(ofSchema)) {
                return false;
            }
            work(ofValue, 1);
            return hasBit(ofValue, ofSchema);
        }

        /** The smallest size of a value that was made and is of a schema and not of another one (-1: of any), or 0. */
        int leastSize(int ofSchema, int other) {
            int found = 0;
            for (int v = 0; v < pool.count; v++) {
                if (found == 0 || pool.sizes[v] < found) {
                    work(v, 1);
                    found = hasBit(v, ofSchema) && !hasBit(v, other) ? Math.min(pool.sizes[v], MOST_SIZE) : found;
                }
            }
            return found;
        }

        /** The number of faults, or a greater one than any that is counted where there are more. */
        long howMany(int ofValue, int ofSchema) {
            if (!pool.has(ofValue) || !book.has(ofSchema)) {
                return 0;
            }
            work(ofValue, 1);
            return counted(ofValue, ofSchema);
        }

        void remember(int ofValue, int ofSchema) {
            work(ofValue, 1);
            value = ofValue;
            schema = ofSchema;
            remembered = counted(ofValue, ofSchema);
        }

        private void work(int v, int depth) {
            if (!pool.has(v) || depth > MOST_DEPTH) {
                return;
            }
            if (editions[v] != book.edition) {
                editions[v] = book.edition;
                filled[v] = 0;
                bits[v] = 0;
            }
            if (filled[v] >= book.count) {
                return;
            }
            for (int i = 0; i < MOST_PARTS; i++) {
                work(pool.at(v, i), depth + 1);
            }
            for (int i = filled[v]; i < book.count; i++) {
                int s = book.order[i];
                bits[v] |= isMember(v, s) ? 1L << s : 0;
                count(v, s);
            }
            filled[v] = book.count;
        }

        private boolean isMember(int v, int s) {
            char kind = book.kinds[s];
            int a = book.firsts[s];
            switch (kind) {
                case 'a':
                    return true;
                case 'u':
                    return hasBit(v, a) || hasBit(v, book.seconds[s]);
                case '&':
                    return hasBit(v, a) && hasBit(v, book.seconds[s]);
                case '!':
                    return !hasBit(v, a);
                case 'r':
                    return hasBit(v, book.target(s));
                case 'l':
                    return pool.kinds[v] == kind && isListOf(v, s);
                case 'o':
                    return pool.kinds[v] == kind && isRecordOf(v, s);
                default:
                    return pool.kinds[v] == kind && book.takesNumber(s, pool.numbers[v]);
            }
        }

        private boolean hasBit(int v, int s) {
            return v >= 0 && s >= 0 && (bits[v] >> s & 1) == 1;
        }

        private boolean isListOf(int v, int s) {
            int length = pool.numbers[v];
            if (length < book.seconds[s] || length > book.thirds[s]) {
                return false;
            }
            for (int i = 0; i < length; i++) {
                if (!hasBit(pool.at(v, i), book.firsts[s])) {
                    return false;
                }
            }
            return true;
        }

        private boolean isRecordOf(int v, int s) {
            for (int label = 0; label < LABELS; label++) {
                int item = book.itemAt(s, label);
                int there = pool.at(v, label);
                if (there < 0 ? book.mustHave(s, label) : item < 0 ? book.isClosed(s) : !hasBit(there, item)) {
                    return false;
                }
            }
            return true;
        }

        private void count(int v, int s) {
            int first = book.firsts[s];
            int into = placeOf(v, s);
            Arrays.fill(counts, into, into + DIGITS, 0);
            switch (book.kinds[s]) {
                case 'a':
                    break;
                case '0':
                    raise(into, NONE, 1);
                    break;
                case 'u':
                    raise(into, placeOf(v, lesserSide(v, s)), 0);
                    break;
                case '&':
                    raise(into, placeOf(v, first), 0);
                    raise(into, placeOf(v, book.seconds[s]), 0);
                    break;
                case '!':
                    raise(into, NONE, counted(v, first) == 0 ? 1 : 0);
                    break;
                case 'r':
                    raise(into, placeOf(v, book.target(s)), book.target(s) < 0 ? 1 : 0);
                    break;
                default:
                    countOwn(v, s, into);
                    break;
            }
        }

        /** Counts what a value lacks by its kind, and what its parts lack. */
        private void countOwn(int v, int s, int into) {
            char own = ownFault(v, s);
            raise(into, NONE, own == ' ' ? 0 : 1);
            for (int i = 0; i < MOST_PARTS && own != 'k'; i++) {
                if (labelFault(v, s, i) != ' ') {
                    raise(into, NONE, 1);
                } else {
                    raise(into, placeOf(pool.at(v, i), book.below(s, i)), 0);
                }
            }
        }

        /** Where the count of a value and a schema stands, or -1. */
        private static int placeOf(int v, int s) {
            return v < 0 || s < 0 ? NONE : (v * MOST_SCHEMAS + s) * DIGITS;
        }

        /** Adds a count, if there is one, and a small number to another count. */
        private void raise(int into, int from, long more) {
            long carried = more;
            for (int i = 0; i < DIGITS; i++) {
                long sum = counts[into + i] + (from < 0 ? 0 : counts[from + i]) + carried;
                counts[into + i] = sum & (MANY - 1);
                carried = sum >>> DIGIT_BITS;
            }
        }

        /** The count, or a greater number than any digit if it has more than one. */
        private long counted(int v, int s) {
            int place = placeOf(v, s);
            if (place < 0) {
                return 0;
            }
            for (int i = 1; i < DIGITS; i++) {
                if (counts[place + i] != 0) {
                    return MANY;
                }
            }
            return counts[place];
        }

        /** The part of a union of which a value has fewer faults, of as many the first one. */
        private int lesserSide(int v, int s) {
            int one = placeOf(v, book.firsts[s]);
            int other = placeOf(v, book.seconds[s]);
            for (int i = DIGITS - 1; i >= 0; i--) {
                if (counts[one + i] != counts[other + i]) {
                    return counts[one + i] < counts[other + i] ? book.firsts[s] : book.seconds[s];
                }
            }
            return book.firsts[s];
        }

        /** The fault of the value by its kind, number or length, or a blank. */
        private char ownFault(int v, int s) {
            char kind = book.kinds[s];
            int number = pool.numbers[v];
            if (kind != pool.kinds[v]) {
                return 'k';
            }
            switch (kind) {
                case 'n':
                    return number < book.firsts[s] || number > book.seconds[s] ? 'r' : ' ';
                case 's':
                    return (book.firsts[s] >> number & 1) == 0 ? 'm' : ' ';
                case 'l':
                    return number < book.seconds[s] || number > book.thirds[s] ? 'g' : ' ';
                default:
                    return ' ';
            }
        }

        private long faultsAt(int v, int s, int index) {
            return labelFault(v, s, index) != ' ' ? 1 : counted(pool.at(v, index), book.below(s, index));
        }

        /** The fault of a label by what is there or not, or a blank. */
        private char labelFault(int v, int s, int label) {
            int there = pool.at(v, label);
            if (book.kinds[s] != 'o') {
                return ' ';
            }
            if (there < 0) {
                return book.mustHave(s, label) ? 'q' : ' ';
            }
            return book.itemAt(s, label) < 0 && book.isClosed(s) ? 'x' : ' ';
        }

        /** Finds the letter and the path of the remembered fault at an index below the count. */
        void seek(int index) {
            int v = value;
            int s = schema;
            left = index;
            path = 0;
            letter = ' ';
            for (int i = 0; i < MOST_SEEKING && letter == ' ' && v >= 0 && s >= 0; i++) {
                switch (book.kinds[s]) {
                    case 'u':
                    case '&':
                        s = side(v, s);
                        break;
                    case 'r':
                        letter = book.target(s) < 0 ? '0' : ' ';
                        s = book.target(s);
                        break;
                    case '0':
                    case '!':
                        letter = book.kinds[s];
                        break;
                    default:
                        int place = enter(v, s);
                        v = pool.at(v, place);
                        s = book.below(s, place);
                        break;
                }
            }
        }

        /** The part of a join in which the fault is. */
        private int side(int v, int s) {
            if (book.kinds[s] == 'u') {
                return lesserSide(v, s);
            }
            long first = counted(v, book.firsts[s]);
            if (left < first) {
                return book.firsts[s];
            }
            left -= first;
            return book.seconds[s];
        }

        /** Takes a value's own fault, or goes on to the part that has the fault; returns its place. */
        private int enter(int v, int s) {
            char own = ownFault(v, s);
            if (own != ' ') {
                if (left == 0) {
                    letter = own;
                    return NONE;
                }
                left--;
            }
            for (int i = 0; i < MOST_PARTS; i++) {
                long here = faultsAt(v, s, i);
                if (left < here) {
                    path = 10 * path + (book.kinds[s] == 'l' ? 5 : 1) + i;
                    letter = labelFault(v, s, i);
                    return i;
                }
                left -= here;
            }
            return NONE;
        }
    }

    /**
     * What matters for one question: the schemas that it hangs on, and which of them take what. The record
     * schemas among them are told in bits of their own, from the first one on, and so are the list schemas.
     */
    private static final class Cone {
        /** A join is told by its number, those of both sides, and whether they and then the whole are turned round. */
        private static final int FIRST = 6;
        private static final int SECOND = 12;
        private static final int SIDES_TURNED = 18;
        private static final int TURNED = 19;
        /** What is without a part counts as being of one more record schema. */
        private static final int PARTLESS = MOST_SCHEMAS + 2;

        private final Schemas book;
        private final int[] joins = new int[MOST_SCHEMAS];
        private final int[] leaves = new int[MOST_SCHEMAS];
        private final int[] lists = new int[MOST_SCHEMAS];
        private final int[] records = new int[MOST_SCHEMAS + 1];
        /** For each label: the schemas of which a value there can be or not be, each once, and the record schemas that hang on it. */
        private final int[] items = new int[LABELS * MOST_SCHEMAS];
        private final long[] holders = new long[LABELS * MOST_SCHEMAS];
        private final int[] itemCounts = new int[LABELS];
        /** The record schemas that let any value be at a label, and those that let nothing be there. */
        private final long[] lenient = new long[LABELS];
        private final long[] lacking = new long[LABELS];
        /** The list schemas that take a list of a length or a longer one, and those that take lists of this length. */
        private final long[] alive = new long[MOST_PARTS + 1];
        private final long[] fitting = new long[MOST_PARTS + 1];
        private int joinCount;
        private int leafCount;
        private int listCount;
        private int recordCount;
        private long around;
        private long always;
        /** The schemas of which it helps to be, and those of which it helps not to be, for an answer. */
        long rising;
        long falling;

        Cone(Schemas book) {
            this.book = book;
        }

        static boolean holds(long bits, int schema) {
            return schema >= 0 && (bits >> schema & 1) == 1;
        }

        static long bit(int schema) {
            return schema < 0 ? 0 : 1L << schema;
        }

        /** Gathers what tells of how many of the first ones, and how few of the others, a value is. */
        void prepare(long helpful, long harmful, boolean mindsParts) {
            long all = bit(MOST_SCHEMAS) - 1 & ~(book.always | book.never);
            rising = helpful & all;
            falling = harmful & all | (mindsParts ? Logic.PARTLESS : 0);
            around = rising | falling;
            sortAll();
        }

        private void sortAll() {
            joinCount = 0;
            leafCount = 0;
            listCount = 0;
            recordCount = 0;
            always = book.always;
            for (int i = 0; i < book.count; i++) {
                int s = book.order[i];
                if (holds(around, s)) {
                    sort(s);
                }
            }
            if (holds(around, PARTLESS)) {
                records[recordCount] = PARTLESS;
                recordCount++;
            }
            for (int length = 0; length <= MOST_PARTS; length++) {
                sortLength(length);
            }
            for (int label = 0; label < LABELS; label++) {
                sortLabel(label);
            }
        }

        private void sort(int s) {
            switch (book.kinds[s]) {
                case 'l':
                    lists[listCount] = s;
                    listCount++;
                    break;
                case 'o':
                    records[recordCount] = s;
                    recordCount++;
                    break;
                case 'u':
                    addJoin(s, book.firsts[s], book.seconds[s], 1 << SIDES_TURNED | 1 << TURNED);
                    break;
                case '&':
                    addJoin(s, book.firsts[s], book.seconds[s], 0);
                    break;
                case '!':
                    addJoin(s, book.firsts[s], book.firsts[s], 1 << SIDES_TURNED);
                    break;
                case 'r':
                    // A name that is not bound is never met, and so it does not come here.
                    addJoin(s, book.bound[book.firsts[s]], book.bound[book.firsts[s]], 0);
                    break;
                default:
                    leaves[leafCount] = s;
                    leafCount++;
                    break;
            }
        }

        private void addJoin(int s, int first, int second, int turns) {
            joins[joinCount] = s | first << FIRST | second << SECOND | turns;
            joinCount++;
        }

        private void sortLength(int length) {
            alive[length] = 0;
            fitting[length] = 0;
            for (int i = 0; i < listCount; i++) {
                int s = lists[i];
                if (book.thirds[s] >= length) {
                    alive[length] |= 1L << i;
                    fitting[length] |= book.seconds[s] <= length ? 1L << i : 0;
                }
            }
        }

        private void sortLabel(int label) {
            lenient[label] = 0;
            lacking[label] = 0;
            itemCounts[label] = 0;
            for (int i = 0; i < recordCount; i++) {
                int s = records[i];
                int item = book.itemAt(s, label);
                boolean takesAll = item < 0 ? s != PARTLESS && !book.isClosed(s) : holds(book.always, item);
                lenient[label] |= takesAll ? 1L << i : 0;
                lacking[label] |= book.mustHave(s, label) ? 0 : 1L << i;
                if (item >= 0 && !holds(book.always | book.never, item)) {
                    hold(label, item, i);
                }
            }
        }

        /** Notes that one of the record schemas hangs on whether what is at a label is of a schema. */
        private void hold(int label, int item, int record) {
            int from = label * MOST_SCHEMAS;
            int place = from;
            for (int i = 0; i < itemCounts[label] && items[place] != item; i++) {
                place++;
            }
            if (place == from + itemCounts[label]) {
                items[place] = item;
                holders[place] = 0;
                itemCounts[label]++;
            }
            holders[place] |= 1L << record;
        }

        /** The schemas of its own kind that a leaf is of. */
        long ofLeaf(char kind, int number) {
            long bits = 0;
            for (int i = 0; i < leafCount; i++) {
                int s = leaves[i];
                if (book.kinds[s] == kind && book.takesNumber(s, number)) {
                    bits |= bit(s);
                }
            }
            return bits;
        }

        int breaks() {
            return 2 * leafCount + 1;
        }

        /** Numbers between two breaks are of the same schemas, so the breaks stand for all. */
        int breakAt(int index) {
            if (index <= 0 || index > 2 * leafCount) {
                return -99;
            }
            int s = leaves[(index - 1) / 2];
            if (book.kinds[s] != 'n') {
                return -99;
            }
            return index % 2 == 0 ? book.firsts[s] : Math.min(book.seconds[s] + 1, 99);
        }

        /** All schemas that a value is of, from those of its own kind. */
        long joinedUp(long own) {
            long bits = own | always;
            for (int i = 0; i < joinCount; i++) {
                int join = joins[i];
                long turn = -(join >> SIDES_TURNED & 1);
                long one = bits >> (join >> FIRST & 63) ^ turn;
                long other = bits >> (join >> SECOND & 63) ^ turn;
                bits |= ((one & other ^ join >> TURNED) & 1) << (join & 63);
            }
            return bits;
        }

        /** All schemas that a value can be of (or else: must be of) that is perhaps of these of its own kind, and of no others. */
        long bound(long own, boolean isMost) {
            long most = own | always;
            long least = always;
            for (int i = 0; i < joinCount; i++) {
                int join = joins[i];
                boolean isTurned = (join >> SIDES_TURNED & 1) == 1;
                long upper = isTurned ? ~least : most;
                long lower = isTurned ? ~most : least;
                long both = upper >> (join >> FIRST & 63) & upper >> (join >> SECOND & 63) & 1;
                long each = lower >> (join >> FIRST & 63) & lower >> (join >> SECOND & 63) & 1;
                isTurned = (join >> TURNED & 1) == 1;
                most |= (isTurned ? 1 - each : both) << (join & 63);
                least |= (isTurned ? 1 - both : each) << (join & 63);
            }
            return isMost ? most : least;
        }

        /** The list schemas that let a value be a part. */
        long asPart(long bits) {
            long those = 0;
            for (int i = 0; i < listCount; i++) {
                those |= (bits >> book.firsts[lists[i]] & 1) << i;
            }
            return those;
        }

        /** Of which schemas that matter at a label a value is: a bit for each of them. */
        long atLabel(long bits, int label) {
            long row = 0;
            int from = label * MOST_SCHEMAS;
            for (int i = 0; i < itemCounts[label]; i++) {
                row |= (bits >> items[from + i] & 1) << i;
            }
            return row;
        }

        /** The record schemas that let a value be at a label, as it is told by such bits. */
        long keyOf(long row, int label) {
            long those = lenient[label];
            int from = label * MOST_SCHEMAS;
            for (int i = 0; i < itemCounts[label]; i++) {
                those |= -(row >> i & 1) & holders[from + i];
            }
            return those;
        }

        /** Whether nothing at a label serves as well as a value that is told by such bits, if some record schemas help and some harm. */
        boolean isNothingAsGood(long row, int label, long helpful, long harmful) {
            if (helpful == harmful) {
                return false;
            }
            long key = keyOf(row, label);
            return (key & ~lacking[label] & helpful) == 0 && (lacking[label] & ~key & harmful) == 0;
        }

        /** Those of the schemas that matter at a label on which some of these record schemas hang. */
        long itemsOf(long records, int label) {
            long those = 0;
            for (int i = 0; i < itemCounts[label]; i++) {
                those |= (holders[label * MOST_SCHEMAS + i] & records) == 0 ? 0 : 1L << i;
            }
            return those;
        }

        /** The record schemas that let a label be without a value. */
        long withoutLabel(int label) {
            return lacking[label];
        }

        /** Of how many schemas a value at a label can be or not be. */
        int itemsAt(int label) {
            return itemCounts[label];
        }

        int listWidth() {
            return listCount;
        }

        int recordWidth() {
            return recordCount;
        }

        /** The list schemas that take a list of this length or a longer one. */
        long reaching(int length) {
            return alive[length];
        }

        /** The list schemas that take lists of this length. */
        long taking(int length) {
            return fitting[length];
        }

        /** The schemas that some list schemas, or record schemas, are, which are told in bits of their own. */
        long ofLists(long those) {
            return told(those, lists);
        }

        long ofRecords(long those) {
            return told(those, records);
        }

        private static long told(long those, int[] schemas) {
            long bits = 0;
            long rest = those;
            for (int n = 0; n < MOST_SCHEMAS && rest != 0; n++) {
                bits |= 1L << schemas[Long.numberOfTrailingZeros(rest)];
                rest &= rest - 1;
            }
            return bits;
        }

        /** Those of the list schemas, or of the record schemas, that are among these, in bits of their own. */
        long listsAmong(long bits) {
            return among(bits, lists, listCount);
        }

        long recordsAmong(long bits) {
            return among(bits, records, recordCount);
        }

        private static long among(long bits, int[] schemas, int count) {
            long those = 0;
            for (int i = 0; i < count; i++) {
                those |= (bits >> schemas[i] & 1) << i;
            }
            return those;
        }
    }

    /** What follows for one value from what it must be of and must not be of, as far as the joins tell. */
    private static final class Logic {
        static final int EITHER = 0;
        static final int LISTS = 1;
        static final int RECORDS = 2;
        /** Three bits behind the schemas: to be a list, to be a record, and to be without a part. */
        static final long LIST = 1L << MOST_SCHEMAS;
        static final long RECORD = 2L << MOST_SCHEMAS;
        static final long PARTLESS = 4L << MOST_SCHEMAS;
        private static final int ATOMS = 0;
        private static final int JOINS = 1;
        private static final int UNIONS = 2;
        private static final int MEETS = 3;
        private static final int STACK = 2 * MOST_SCHEMAS;
        private static final int WIDTH = 4;
        private static final int MOST_WAYS = 10000000;

        private final Schemas book;
        private final Cone cone;
        /** The values of size 1, by the schemas that they are of. */
        private final long[] singles = new long[4 * MOST_SCHEMAS];
        private int singleCount;
        /** What follows from being of a schema, and what that bars; then both for not being of it. */
        final long[] follows = new long[4 * MOST_SCHEMAS];
        /** What lists and records that are not empty are never and always of, as it is seen. */
        final long[] nevers = new long[3];
        final long[] alwayses = new long[3];
        /** The schemas that tell of the same value, in the same sense and in the contrary one. */
        final long[] senses = new long[2 * MOST_SCHEMAS];
        /** For each place: the schemas that want something there, those that something there can be against .. */
        final long[] needing = new long[PLACES];
        final long[] minding = new long[PLACES];
        /** .. and those that let nothing be there. */
        final long[] shut = new long[PLACES];
        private final long[] groups = new long[4];
        /** The ways that are left: to be of, not to be of, and what of both another way covers already. */
        private final long[] stack = new long[WIDTH * (STACK + 2)];
        private int high;
        private int kind;
        private int splits;
        /** What a value must be of and must not be of. */
        long yes;
        long no;
        /** Whether choices were left open, for there were too many ways. */
        boolean isCut;

        Logic(Schemas book) {
            this.book = book;
            cone = new Cone(book);
        }

        /** Gets ready for the schemas as they are. */
        void prepare() {
            cone.prepare(-1L, -1L, false);
            addSingles();
            Arrays.fill(groups, 0);
            Arrays.fill(shut, 0);
            Arrays.fill(needing, 0);
            Arrays.fill(minding, 0);
            Arrays.fill(nevers, book.never);
            Arrays.fill(alwayses, book.always);
            nevers[LISTS] |= RECORD;
            nevers[RECORDS] |= LIST;
            alwayses[LISTS] |= LIST;
            alwayses[RECORDS] |= RECORD;
            for (int i = 0; i < book.count; i++) {
                int s = book.order[i];
                follow(s);
                sense(s);
                for (int kind = LISTS; kind <= RECORDS; kind++) {
                    nevers[kind] |= isNever(s, kind) ? Cone.bit(s) : 0;
                    alwayses[kind] |= isAlways(s, kind) ? Cone.bit(s) : 0;
                }
            }
            nevers[EITHER] = nevers[LISTS] & nevers[RECORDS];
            alwayses[EITHER] = alwayses[LISTS] & alwayses[RECORDS];
        }

        private void follow(int s) {
            int at = 4 * s;
            long own = Cone.bit(s);
            follows[at] = own;
            follows[at + 1] = 0;
            follows[at + 2] = 0;
            follows[at + 3] = own;
            if (Cone.holds(book.never | book.always, s)) {
                return;
            }
            int a = book.kinds[s] == 'r' ? book.target(s) : book.firsts[s];
            int b = book.seconds[s];
            switch (book.kinds[s]) {
                case 'u':
                    groups[UNIONS] |= own;
                    groups[JOINS] |= own;
                    draw(at + 2, a, 2);
                    draw(at + 2, b, 2);
                    draw(at, a == b ? a : NONE, 0);
                    break;
                case '&':
                    groups[MEETS] |= own;
                    groups[JOINS] |= own;
                    draw(at, a, 0);
                    draw(at, b, 0);
                    draw(at + 2, a == b ? a : NONE, 2);
                    break;
                case '!':
                    groups[JOINS] |= own;
                    draw(at, a, 2);
                    draw(at + 2, a, 0);
                    break;
                case 'r':
                    groups[JOINS] |= own;
                    draw(at, a, 0);
                    draw(at + 2, a, 2);
                    break;
                case 'a':
                case '0':
                    break;
                default:
                    groups[ATOMS] |= own;
                    sortPlaces(s);
                    break;
            }
        }

        /** Adds what follows from being (0), or not being (2), of another schema. */
        private void draw(int at, int other, int not) {
            if (other >= 0) {
                follows[at] |= follows[4 * other + not];
                follows[at + 1] |= follows[4 * other + not + 1];
            }
        }

        /** Gathers the schemas that a schema is joined from. */
        private void sense(int s) {
            boolean isFolded = Cone.holds(book.never | book.always, s);
            long rest = isFolded ? 0 : book.joined(s);
            senses[2 * s] = isFolded ? 0 : Cone.bit(s);
            senses[2 * s + 1] = 0;
            for (int i = 0; i < MOST_PARTS && rest != 0; i++) {
                int a = Long.numberOfTrailingZeros(rest);
                rest &= rest - 1;
                int turn = book.kinds[s] == '!' ? 1 : 0;
                senses[2 * s] |= senses[2 * a + turn];
                senses[2 * s + 1] |= senses[2 * a + 1 - turn];
            }
        }

        /** Sorts a schema of lists or records by what it tells of the places in them. */
        private void sortPlaces(int s) {
            long own = Cone.bit(s);
            if (book.kinds[s] == 'l') {
                needing[IN_LIST] |= book.seconds[s] > 0 ? own : 0;
                minding[IN_LIST] |= own;
            }
            for (int label = 0; label < LABELS && book.kinds[s] == 'o'; label++) {
                int item = book.itemAt(s, label);
                boolean isBarred = (book.barred(s) >> label & 1) == 1;
                shut[label] |= isBarred || Cone.holds(book.never, item) ? own : 0;
                needing[label] |= book.mustHave(s, label) ? own : 0;
                minding[label] |= isBarred || (item >= 0 && !Cone.holds(book.always, item)) ? own : 0;
            }
        }

        private void addSingles() {
            singleCount = 0;
            addSingle(cone.ofLeaf('z', 0));
            addSingle(cone.ofLeaf('b', 0));
            addSingle(cone.ofLists(cone.taking(0)));
            addSingle(cone.ofRecords(cone.withoutLabel(0) & cone.withoutLabel(1) & cone.withoutLabel(2) & cone.withoutLabel(3)));
            for (int symbol = 0; symbol <= 9; symbol++) {
                addSingle(cone.ofLeaf('s', symbol));
            }
            for (int i = 0; i < cone.breaks(); i++) {
                addSingle(cone.ofLeaf('n', cone.breakAt(i)));
            }
        }

        private void addSingle(long own) {
            long bits = cone.joinedUp(own);
            for (int i = 0; i < singleCount; i++) {
                if (singles[i] == bits) {
                    return;
                }
            }
            if (singleCount < singles.length) {
                singles[singleCount] = bits;
                singleCount++;
            }
        }

        /** Whether a value of size 1 is of all these and of none of those. */
        boolean hasSingle(long must, long mustNot) {
            for (int i = 0; i < singleCount; i++) {
                if (((must & ~singles[i]) | (mustNot & singles[i])) == 0) {
                    return true;
                }
            }
            return false;
        }

        /** Whether no list, or no record, but perhaps the empty one is of a schema, by how it is written. */
        private boolean isNever(int s, int kind) {
            long never = nevers[kind];
            int a = book.firsts[s];
            switch (book.kinds[s]) {
                case 'l':
                    return kind == RECORDS || book.thirds[s] == 0 || Cone.holds(book.never, a);
                case 'o':
                    return kind == LISTS || book.barred(s) == ALL_PLACES;
                case 'u':
                    return Cone.holds(never, a) && Cone.holds(never, book.seconds[s]);
                case '&':
                    return Cone.holds(never, a) || Cone.holds(never, book.seconds[s]);
                case '!':
                    return Cone.holds(alwayses[kind], a);
                case 'r':
                    return Cone.holds(never, book.target(s));
                case 'a':
                case '0':
                    return false;
                default:
                    return true;
            }
        }

        /** Whether each list, or each record, but perhaps the empty one is of a schema, by how it is written. */
        private boolean isAlways(int s, int kind) {
            long always = alwayses[kind];
            int a = book.firsts[s];
            switch (book.kinds[s]) {
                case 'l':
                    return kind == LISTS && book.seconds[s] <= 1 && book.thirds[s] == MOST_PARTS
                            && Cone.holds(book.always, a);
                case 'o':
                    return kind == RECORDS && (book.needed(s) | book.barred(s)) == 0
                            && (book.nested(s) & ~book.always) == 0;
                case 'u':
                    return Cone.holds(always, a) || Cone.holds(always, book.seconds[s]);
                case '&':
                    return Cone.holds(always, a) && Cone.holds(always, book.seconds[s]);
                case '!':
                    return Cone.holds(nevers[kind], a);
                case 'r':
                    return Cone.holds(always, book.target(s));
                default:
                    return false;
            }
        }

        /** Adds all that follows, if the value is never and always of these; false if it can't be. */
        boolean ease(long never, long always) {
            long knownYes = 0;
            long knownNo = 0;
            boolean grown = true;
            for (int pass = 0; pass <= 2 * MOST_SCHEMAS && grown; pass++) {
                long freshYes = yes & groups[JOINS] & ~knownYes;
                long freshNo = no & groups[JOINS] & ~knownNo;
                for (int i = 0; i < 2 * MOST_SCHEMAS && (freshYes | freshNo) != 0; i++) {
                    int at = freshYes != 0 ? 4 * Long.numberOfTrailingZeros(freshYes)
                            : 4 * Long.numberOfTrailingZeros(freshNo) + 2;
                    freshNo &= freshYes != 0 ? -1L : freshNo - 1;
                    freshYes &= freshYes - 1;
                    yes |= follows[at];
                    no |= follows[at + 1];
                }
                if (((yes & (no | never)) | (no & always)) != 0) {
                    return false;
                }
                knownYes = yes;
                knownNo = no;
                yes |= drawnFrom(yes & groups[UNIONS], no | never);
                no |= drawnFrom(no & groups[MEETS], yes | always);
                grown = yes != knownYes || no != knownNo;
            }
            return true;
        }

        /** Of each choice one side of which is ruled out, the other side. */
        private long drawnFrom(long choices, long ruledOut) {
            long drawn = 0;
            long rest = choices;
            for (int i = 0; i < MOST_SCHEMAS && rest != 0; i++) {
                int s = Long.numberOfTrailingZeros(rest);
                rest &= rest - 1;
                drawn |= (ruledOut >> book.firsts[s] & 1) << book.seconds[s];
                drawn |= (ruledOut >> book.seconds[s] & 1) << book.firsts[s];
            }
            return drawn;
        }

        /** Those that tell of a value of their own kind, among what it must be of. */
        long those() {
            return yes & groups[ATOMS];
        }

        /** Those that tell of a value of their own kind, among what it must not be of. */
        long others() {
            return no & groups[ATOMS];
        }

        /** The schemas that tell of a value of which these and those tell, in the sense of these (0), or of those (1). */
        long sensed(long these, long those, int sense) {
            long all = 0;
            for (int s = 0; s < book.count; s++) {
                all |= (these >> s & 1) == 1 ? senses[2 * s + sense] : 0;
                all |= (those >> s & 1) == 1 ? senses[2 * s + 1 - sense] : 0;
            }
            return all;
        }

        /** Starts the ways in which a list or a record that is not empty, and is never of some, can be as is asked for. */
        void open(long must, long mustNot, int ofKind, long never, int mostSplits) {
            kind = ofKind;
            splits = mostSplits;
            isCut = false;
            high = 0;
            push(must, mustNot, never, 0);
        }

        /** Goes to the next way, told by schemas of its kind alone; it leaves out what those ahead cover. False if there is none. */
        boolean next() {
            for (int i = 0; i < MOST_WAYS && high > 0; i++) {
                high--;
                yes = stack[WIDTH * high];
                no = stack[WIDTH * high + 1];
                long never = stack[WIDTH * high + 2];
                long always = stack[WIDTH * high + 3];
                if (!ease(nevers[kind] | never, alwayses[kind] | always)) {
                    continue;
                }
                // A union that it must be of, or a meet that it must not be of, while neither side is seen to be so.
                long unions = undecided(yes & groups[UNIONS], yes | alwayses[kind]);
                long open = unions != 0 ? unions : undecided(no & groups[MEETS], no | nevers[kind]);
                if (open == 0) {
                    return true;
                }
                if (splits <= 0 || high >= STACK) {
                    isCut = true;
                    return true;
                }
                splits--;
                int s = Long.numberOfTrailingZeros(open);
                long first = Cone.bit(book.firsts[s]);
                long second = Cone.bit(book.seconds[s]);
                if (unions != 0) {
                    push(yes | second, no, never | first, always);
                    push(yes | first, no, never, always);
                } else {
                    push(yes, no | second, never, always | first);
                    push(yes, no | first, never, always);
                }
            }
            return false;
        }

        private void push(long must, long mustNot, long never, long always) {
            stack[WIDTH * high] = must;
            stack[WIDTH * high + 1] = mustNot;
            stack[WIDTH * high + 2] = never;
            stack[WIDTH * high + 3] = always;
            high++;
        }

        /** The choices of which neither side is decided. */
        private long undecided(long choices, long decided) {
            long open = choices;
            long rest = choices;
            for (int i = 0; i < MOST_SCHEMAS && rest != 0; i++) {
                int s = Long.numberOfTrailingZeros(rest);
                rest &= rest - 1;
                open &= ~((decided >> book.firsts[s] & 1 | decided >> book.seconds[s] & 1) << s);
            }
            return open;
        }

        /** Leaves only what all else follows from for a list or a record that is not empty. */
        void trim(int kind) {
            long unions = undecided(yes & groups[UNIONS], yes | alwayses[kind]);
            long meets = undecided(no & groups[MEETS], no | nevers[kind]);
            yes = (those() & ~alwayses[kind]) | unions;
            no = (others() & ~nevers[kind]) | (no & (LIST | RECORD)) | meets;
        }
    }

    /**
     * The words in which all rows of a climb stand; when a climb begins, all of them are free. Rows have
     * parts of them, and so have marks and slots by which rows are found. It also sifts what rows of two
     * tables have together, so that what was seen is seldom seen again.
     */
    private static final class Room {
        static final int CHUNK = 512;
        /** How many rows are joined with each other at once. */
        static final int LANE = 1024;
        /** The most bits for which there can be a mark, and a count, for each row. */
        static final int MOST_MARKED = 26;
        private static final int MOST_COUNTED = 20;
        private static final int MOST_SPLITS = 4;
        static final long SPREAD = 0x9E3779B97F4A7C15L;
        private static final int[] SIZES = {1 << 14, 1 << 18, 18 << 18};
        private static final int WORD_BITS = 6;
        private static final int FEW = 256;
        private static final int MANY = 1 << 17;
        private static final int KINDS = 3;

        long[] words = new long[SIZES[0]];
        private int used;
        private int spare;
        final long[] lane = new long[LANE];
        /** Up to where rows were put in the lane. */
        int loadedTo;
        /** What came through the sieve, of what was joined last. */
        final long[] fresh = new long[LANE];
        /** For lists and for records: where the sieve is, how many words it has, of how many bits rows are, and what came through. */
        private final int[] sieves = new int[KINDS];
        private final int[] meshes = new int[KINDS];
        private final int[] widths = new int[KINDS];
        private final int[] passed = new int[KINDS];
        /** Where there is a count for all rows of some few bits, for how many bits there is room, and which bits these are, or -1. */
        private int ground;
        private int groundBits;
        private long spots;
        private long fixed;
        /** Which rows of two tables are to be joined: from and up to, of the one and of the other; and what they all must have. */
        final int[] ranges = new int[4 * (MOST_SIZE + 3)];
        int rangesEnd;
        long need;
        /** How many rows a table may have, how many of one size, and whether better ones can take the place of others. */
        int rows;
        int quota;
        boolean replaces;

        /** Frees all, and starts sieves for lists and records of so many bits. */
        void clear(int listWidth, int recordWidth) {
            used = 0;
            spare = NONE;
            groundBits = NONE;
            spots = NONE;
            for (int kind = Logic.LISTS; kind <= Logic.RECORDS; kind++) {
                widths[kind] = kind == Logic.LISTS ? listWidth : recordWidth;
                passed[kind] = 0;
                meshes[kind] = FEW;
                sieves[kind] = used;
                used += FEW;
                Arrays.fill(words, sieves[kind], used, isExact(kind) ? 0 : NONE);
            }
        }

        /** Whether the sieve has a mark for each row; otherwise it has some of the rows that came last. */
        private boolean isExact(int kind) {
            return widths[kind] <= MOST_MARKED && meshes[kind] >= 1 << Math.max(0, widths[kind] - WORD_BITS);
        }

        /** How many words have a mark for each row of so many bits. */
        static int marksFor(int width) {
            return 1 << Math.max(0, width - WORD_BITS);
        }

        /** Makes the sieve finer if much comes through. */
        void refine(int kind) {
            int size = widths[kind] <= MOST_MARKED ? marksFor(widths[kind]) : MANY;
            if (meshes[kind] >= size || passed[kind] < size / 4) {
                return;
            }
            int finer = take(size);
            if (finer >= 0) {
                give(sieves[kind], meshes[kind]);
                sieves[kind] = finer;
                meshes[kind] = size;
                Arrays.fill(words, finer, finer + size, isExact(kind) ? 0 : NONE);
            }
        }

        /** Whether it is known that a row came through the sieve. */
        boolean hasSifted(long row, int kind) {
            return isExact(kind) ? (words[sieves[kind] + (int) (row >>> WORD_BITS)] >>> row & 1) == 1
                    : words[sieves[kind] + ((int) (row * SPREAD >>> 32) & meshes[kind] - 1)] == row;
        }

        /** The place of so many free words in a row, or -1. */
        int take(int size) {
            if (size == CHUNK && spare >= 0) {
                int taken = spare;
                spare = (int) words[taken];
                return taken;
            }
            for (int i = 1; i < SIZES.length && used + size > words.length; i++) {
                if (words.length < SIZES[i]) {
                    words = Arrays.copyOf(words, SIZES[i]);
                }
            }
            if (used + size > words.length) {
                return NONE;
            }
            used += size;
            return used - size;
        }

        /** Frees words. */
        void give(int place, int size) {
            for (int i = 0; i + CHUNK <= size; i += CHUNK) {
                words[place + i] = spare;
                spare = place + i;
            }
        }

        /** Makes ready for counts of all rows of these bits, which have others all; false if there is no room. */
        boolean takeGround(long bits, long always) {
            int width = Math.min(Long.bitCount(bits), MOST_COUNTED);
            if (Long.bitCount(bits) > MOST_COUNTED + MOST_SPLITS) {
                return false;
            }
            if (width > groundBits) {
                int place = take(2 << width);
                if (place < 0) {
                    return false;
                }
                give(ground, groundBits < 0 ? 0 : 2 << groundBits);
                ground = place;
                groundBits = width;
            }
            spots = bits;
            fixed = always;
            return true;
        }

        /** Whether what rows of two tables have together is told by counts. */
        boolean isCounted() {
            return spots != NONE;
        }

        /** Forgets the counts. */
        void leaveGround() {
            spots = NONE;
        }

        /** How many rows are counted at once. */
        int groundSize() {
            return 1 << Math.min(Long.bitCount(spots), MOST_COUNTED);
        }

        /** In how many parts rows are counted: by each of the top bits there are three, see Climb.count. */
        int groundParts() {
            int parts = 1;
            for (int i = MOST_COUNTED; i < Long.bitCount(spots); i++) {
                parts *= 3;
            }
            return parts;
        }

        /** The bits that are too many to be counted at once. */
        long topSpots() {
            long top = spots;
            for (int i = 0; i < MOST_COUNTED; i++) {
                top &= top - 1;
            }
            return top;
        }

        void clearGround() {
            Arrays.fill(words, ground, ground + 2 * groundSize(), 0);
        }

        /** Puts a row on the ground: on its first or second half. */
        void lay(long row, int half) {
            int place = 0;
            long rest = spots;
            for (int i = 0; i < MOST_COUNTED && rest != 0; i++) {
                place |= (int) (row >> Long.numberOfTrailingZeros(rest) & 1) << i;
                rest &= rest - 1;
            }
            words[ground + half * groundSize() + place] = 1;
        }

        /**
         * Counts for each row of how many pairs of the first and the second half it is what both have: counts
         * of those that have all its bits are multiplied, and then those that have more bits are taken away.
         */
        void countPairs() {
            int size = groundSize();
            for (int step = 1; step < size; step *= 2) {
                for (int from = 0; from < 2 * size; from += 2 * step) {
                    for (int i = ground + from; i < ground + from + step; i++) {
                        words[i] += words[i + step];
                    }
                }
            }
            for (int i = ground; i < ground + size; i++) {
                words[i] *= words[i + size];
            }
            for (int step = 1; step < size; step *= 2) {
                for (int from = 0; from < size; from += 2 * step) {
                    for (int i = ground + from; i < ground + from + step; i++) {
                        words[i] -= words[i + step];
                    }
                }
            }
        }

        /** Puts rows that were counted in the lane, those from a place on, all parts being one behind the other; returns how many. */
        int load(int from, int to) {
            int loaded = 0;
            int size = groundSize();
            loadedTo = Math.min(to, from + LANE);
            for (int i = from; i < loadedTo; i++) {
                if (words[ground + (i & size - 1)] != 0) {
                    long row = fixed;
                    long rest = spots;
                    int part = i / size;
                    for (int bit = 0; bit < MOST_COUNTED + MOST_SPLITS && rest != 0; bit++) {
                        boolean has = bit < MOST_COUNTED ? (i >> bit & 1) == 1 : part % 3 == 0;
                        row |= has ? rest & -rest : 0;
                        part /= bit < MOST_COUNTED ? 1 : 3;
                        rest &= rest - 1;
                    }
                    lane[loaded] = row;
                    loaded++;
                }
            }
            return loaded;
        }

        /** Joins a row with those in the lane; returns how many came through the sieve. */
        int sift(long key, int count, int kind) {
            int found = 0;
            int from = sieves[kind];
            int last = meshes[kind] - 1;
            boolean isExact = isExact(kind);
            for (int i = 0; i < count && i < LANE; i++) {
                long row = key & lane[i];
                int place = from + (isExact ? (int) (row >>> WORD_BITS) : (int) (row * SPREAD >>> 32) & last);
                long word = words[place];
                if (isExact ? (word >>> row & 1) == 0 : word != row) {
                    words[place] = isExact ? word | 1L << row : row;
                    fresh[found] = row;
                    found++;
                }
            }
            passed[kind] += found;
            return found;
        }
    }

    /** Rows of bits, each once, in the order of the sizes with which they came. */
    private static final class Table {
        private static final int LEAST_SLOTS = 64;
        private static final int GROWTH = 4;
        private static final int LOOKS = 64;
        private static final int CHUNK_BITS = 9;
        private static final int IN_CHUNK = Room.CHUNK - 1;

        private final Room room;
        /** For the rows of a label, what they tell of the record schemas; the first one tells that nothing is there. */
        private final Cone cone;
        private final int label;
        /** Where in the room the rows stand, and of how many bits they are. */
        private int[] chunks = new int[16];
        private int width;
        /** Where the rows of each size start, and the greatest size that has some. */
        private final int[] starts = new int[MOST_SIZE + 2];
        private int top;
        /** The bits that it helps to have, and those that it helps not to have. */
        long more;
        long fewer;
        /** Where the rows start that came since rows were closed: others may still take their place. */
        int opened;
        /** How many slots are taken: more than there are rows, if rows took the place of others. */
        private int taken;
        /** Where the slots are that tell the rows, and how many; none if there is a mark for each row there can be. */
        private int slots;
        private int slotCount;
        /** Whether the first rows may make room for the last ones, and how many did. */
        boolean loses;
        int lost;
        /** Whether a row was wanted that was lost. */
        boolean isLost;
        int count;
        /** How many of the rows were passed on. */
        int fed;
        /** Whether a row found no room, or there was no time for all. */
        boolean spilled;
        /** Whether a row was left out, for there were enough of its size. */
        boolean isThin;

        Table(Room room, Cone cone, int label) {
            this.room = room;
            this.cone = cone;
            this.label = label;
        }

        /** Empties the table for rows of so many bits, of which some help and some harm. */
        void start(int bits, long rising, long falling) {
            width = bits;
            more = rising;
            fewer = falling;
            count = 0;
            taken = 0;
            opened = 0;
            fed = 0;
            lost = 0;
            isLost = false;
            top = NONE;
            starts[0] = 0;
            isThin = false;
            loses = false;
            slotCount = width <= Room.MOST_MARKED && Room.marksFor(width) <= LEAST_SLOTS / 2 ? 0 : LEAST_SLOTS;
            slots = room.take(LEAST_SLOTS / 2);
            spilled = slots < 0;
            if (!spilled) {
                Arrays.fill(room.words, slots, slots + LEAST_SLOTS / 2, 0);
            }
        }

        /** Starts the rows of a label with one that tells that nothing is there, which has no mark and no slot. */
        void addNothing() {
            count = 1;
            chunks[0] = room.take(Room.CHUNK);
            spilled |= chunks[0] < 0;
        }

        /** All rows from now on count as later ones. */
        void closeRound() {
            opened = count;
        }

        /** All rows from now on are of a greater size. */
        void close(int size) {
            top = count > starts[size] ? size : top;
            starts[size + 1] = count;
            opened = count;
        }

        /** The first row of a size that is closed; those of the size above start behind its last one. */
        int startOf(int size) {
            return starts[size];
        }

        int top() {
            return top;
        }

        /** What a row tells of the record schemas, or of the list schemas. */
        long keyAt(int place) {
            if (label >= 0 && place == 0) {
                return cone.withoutLabel(label);
            }
            long row = room.words[chunks[place >> CHUNK_BITS] + (place & IN_CHUNK)];
            return label < 0 ? row : cone.keyOf(row, label);
        }

        /** Puts what some rows tell, as far as a mask shows it, and if it is all that is needed, in the lane; returns how many. */
        int load(int from, int to, long mask) {
            int loaded = 0;
            int i = from;
            for (; i < to && loaded < Room.LANE; i++) {
                long key = keyAt(i) & mask;
                if ((room.need & ~key) == 0) {
                    room.lane[loaded] = key;
                    loaded++;
                }
            }
            room.loadedTo = i;
            return loaded;
        }

        /** Joins what a row tells with those in the lane; returns how many of them are not seen at once to be known. */
        int sift(long key, int loaded) {
            int found = 0;
            boolean isMarked = slotCount == 0;
            for (int i = 0; i < loaded; i++) {
                long row = key & room.lane[i];
                if (!isMarked || (room.words[slots + (int) (row >>> 6)] >>> row & 1) == 0) {
                    room.fresh[found] = row;
                    found++;
                }
            }
            return found;
        }

        /** Puts a row in, if no other one serves as well; returns whether it did. */
        boolean insert(long row) {
            if (spilled) {
                return false;
            }
            int slot = slotCount > 0 ? slotOf(row) : NONE;
            int told = slot < 0 ? slots + (int) (row >>> 6) : slots + (slot >> 1);
            boolean isKnown = slot < 0 ? (room.words[told] >>> row & 1) == 1 : (int) (room.words[told] >>> ((slot & 1) << 5)) > 0;
            if (isKnown || isOutdone(row)) {
                return false;
            }
            if (count - opened >= room.quota) {
                isThin = true;
                return false;
            }
            if (slotCount > 0 && 2 * taken >= slotCount) {
                int before = slots;
                int words = slotCount / 2;
                boolean isMarked = width <= Room.MOST_MARKED && Room.marksFor(width) <= GROWTH * words;
                int size = isMarked ? Room.marksFor(width) : GROWTH * words;
                widen(room.take(size), size, isMarked);
                room.give(before, spilled ? 0 : words);
            }
            int place = room.replaces ? outdone(row) : NONE;
            if (place < 0) {
                place = count;
                if ((count & IN_CHUNK) == 0) {
                    hold(room.take(Room.CHUNK));
                }
                spilled |= count >= room.rows;
                count += spilled ? 0 : 1;
            }
            if (spilled) {
                return false;
            }
            room.words[chunks[place >> CHUNK_BITS] + (place & IN_CHUNK)] = row;
            if (slotCount == 0) {
                room.words[slots + (int) (row >>> 6)] |= 1L << row;
            } else {
                slot = slotOf(row);
                room.words[slots + (slot >> 1)] |= (long) (place + 1) << ((slot & 1) << 5);
                taken++;
            }
            return true;
        }

        /** Takes words for the next rows; if there are none, they may take the place of the first ones. */
        private void hold(int place) {
            int chunk = count >> CHUNK_BITS;
            if (chunk >= chunks.length) {
                chunks = Arrays.copyOf(chunks, GROWTH * chunks.length);
            }
            chunks[chunk] = place;
            if (place < 0 && loses && slotCount == 0 && lost + 2 * Room.CHUNK <= count) {
                chunks[chunk] = chunks[lost >> CHUNK_BITS];
                lost += Room.CHUNK;
            }
            spilled |= chunks[chunk] < 0;
        }

        /** One of the last rows that were not joined which a row outdoes, or -1. */
        private int outdone(long row) {
            if (more == fewer || (slotCount > 0 && 2 * taken >= slotCount)) {
                return NONE;
            }
            for (int i = count - 1; i >= opened && i >= count - LOOKS; i--) {
                long other = room.words[chunks[i >> CHUNK_BITS] + (i & IN_CHUNK)];
                if (((other & ~row & more) | (row & ~other & fewer)) == 0) {
                    return i;
                }
            }
            return NONE;
        }

        /** Looks at a few rows only, the first and the last ones: a row that others outdo costs time and nothing else. */
        private boolean isOutdone(long row) {
            if (more == fewer) {
                return false;
            }
            int first = Math.max(lost, label < 0 ? 0 : 1);
            int looks = Math.min(count, first + LOOKS);
            for (int i = first; i < looks; i++) {
                long other = room.words[chunks[i >> CHUNK_BITS] + (i & IN_CHUNK)];
                if (((row & ~other & more) | (other & ~row & fewer)) == 0) {
                    return true;
                }
            }
            for (int i = Math.max(looks, count - LOOKS); i < count; i++) {
                long other = room.words[chunks[i >> CHUNK_BITS] + (i & IN_CHUNK)];
                if (((row & ~other & more) | (other & ~row & fewer)) == 0) {
                    return true;
                }
            }
            return false;
        }

        /** The slot that a row has or would get; there are always free ones. */
        private int slotOf(long row) {
            int mask = slotCount - 1;
            int slot = (int) (row * Room.SPREAD >>> 32) & mask;
            for (int i = 0; i < slotCount; i++) {
                int place = (int) (room.words[slots + (slot >> 1)] >>> ((slot & 1) << 5)) - 1;
                if (place < 0 || room.words[chunks[place >> CHUNK_BITS] + (place & IN_CHUNK)] == row) {
                    return slot;
                }
                slot = (slot + 1) & mask;
            }
            return slot;
        }

        /** Takes other words to tell which rows there are: more slots, or a mark for each row there can be. */
        private void widen(int place, int size, boolean isMarked) {
            spilled |= place < 0;
            if (spilled) {
                return;
            }
            slots = place;
            slotCount = isMarked ? 0 : 2 * size;
            Arrays.fill(room.words, slots, slots + size, 0);
            taken = 0;
            for (int i = label < 0 ? 0 : 1; i < count; i++) {
                long row = room.words[chunks[i >> CHUNK_BITS] + (i & IN_CHUNK)];
                if (slotCount == 0) {
                    room.words[slots + (int) (row >>> 6)] |= 1L << row;
                } else {
                    int slot = (int) (row * Room.SPREAD >>> 32) & slotCount - 1;
                    for (int k = 0; k < slotCount && (int) (room.words[slots + (slot >> 1)] >>> ((slot & 1) << 5)) > 0; k++) {
                        slot = (slot + 1) & slotCount - 1;
                    }
                    room.words[slots + (slot >> 1)] |= (long) (i + 1) << ((slot & 1) << 5);
                    taken++;
                }
            }
        }

        /** How many words of marks there are, from which all rows can be told; 0 if there are none. */
        int markWords() {
            return slotCount == 0 ? Room.marksFor(width) : 0;
        }

        long marksAt(int word) {
            return room.words[slots + word];
        }

        /** The first row that is not of a smaller size than this, or is of none that is closed. */
        int behind(int size) {
            return starts[Math.max(0, Math.min(size, top + 1))];
        }
    }

    /**
     * What each part of an answer must be of and must not be of, by the place where it stands: at a label,
     * or in a list. It is spread from the question down. Of what can be asked at a place all is kept, or of
     * too much two things become what both have in common, so that no part of the smallest answer is left out.
     * Where nothing can be wanted, nothing is: without it the answer would be smaller. If the answer has to be
     * small, it counts how far in a thing is asked first, for a value there has so many others round it.
     */
    private static final class Demands {
        static final int MOST_SPREADS = 1000;
        /** How many things are asked at a place, if it does not or does count how far in, and where the question itself stands. */
        private static final int FEW = 8;
        private static final int MOST = 40;
        private static final int ROOT = PLACES * MOST;
        private static final int MOST_SPLITS = 64;
        private static final int MOST_MORE = 4;

        private final Schemas book;
        private final Logic logic;
        private final long[] wants = new long[ROOT + 1];
        private final long[] misses = new long[ROOT + 1];
        /** What else such a part may have to be of, and not to be of. */
        private final long[] mays = new long[ROOT + 1];
        private final long[] mayNots = new long[ROOT + 1];
        private final int[] depths = new int[ROOT + 1];
        private final boolean[] isFresh = new boolean[ROOT + 1];
        private final int[] counts = new int[PLACES];
        private boolean isPartlessOut;
        /** Whether it counts how far in things are asked, and how far in the parts are that it asks of now. */
        private boolean isFine;
        private int depth;
        private long want;
        private long miss;
        private long may;
        private long mayNot;
        /** How many things that are asked were not spread to the parts. */
        int fresh;
        /** The places, as bits, where each value of size 1 can stand. */
        int singles;
        /** The schemas of which it can help to be, and those of which it can help not to be. */
        long helpful;
        long harmful;

        Demands(Schemas book, Logic logic) {
            this.book = book;
            this.logic = logic;
        }

        /** Starts with a value, which perhaps is not to be of size 1, that must be of all these and of none of those. */
        void start(long must, long mustNot, boolean noSingle, boolean countsDepth) {
            Arrays.fill(counts, 0);
            Arrays.fill(isFresh, false);
            isPartlessOut = noSingle;
            isFine = countsDepth;
            depths[ROOT] = 0;
            singles = 0;
            wants[ROOT] = must;
            misses[ROOT] = mustNot;
            for (int s = 0; s < book.count; s++) {
                int not = Cone.holds(must, s) ? 0 : 2;
                if (not == 0 || Cone.holds(mustNot, s)) {
                    wants[ROOT] |= logic.follows[4 * s + not];
                    misses[ROOT] |= logic.follows[4 * s + not + 1];
                }
            }
            mays[ROOT] = logic.sensed(must, mustNot, 0);
            mayNots[ROOT] = logic.sensed(must, mustNot, 1);
            helpful = mays[ROOT];
            harmful = mayNots[ROOT];
            isFresh[ROOT] = true;
            fresh = 1;
        }

        /** The thing that was not spread and is the least far in. */
        private int nextFresh() {
            int next = ROOT;
            for (int i = 0; i < ROOT; i++) {
                next = isFresh[i] && (!isFresh[next] || depths[i] < depths[next]) ? i : next;
            }
            return next;
        }

        private void freshen(int at) {
            fresh += isFresh[at] ? 0 : 1;
            isFresh[at] = true;
        }

        /** Spreads one thing that is asked: what all ways in which it can be met ask of a part is asked of this part. */
        void spread() {
            int at = nextFresh();
            isFresh[at] = false;
            fresh--;
            depth = isFine ? depths[at] + 1 : 0;
            for (int place = 0; place < PLACES; place++) {
                long told = (mays[at] & logic.needing[place]) | (mayNots[at] & logic.minding[place]);
                // A value that must not be without a part can need one for which nothing else asks.
                if (told == 0 && !(at == ROOT && isPartlessOut)) {
                    continue;
                }
                want = -1L;
                miss = -1L;
                int kind = place == IN_LIST ? Logic.LISTS : Logic.RECORDS;
                logic.open(wants[at], misses[at], kind, logic.shut[place], MOST_SPLITS);
                for (int way = 0; way <= MOST_SPLITS && logic.next(); way++) {
                    leaveCommon(place);
                }
                want &= ~book.always;
                miss &= ~book.never;
                if (canBe(want, miss)) {
                    may = itemsOf(mays[at], place);
                    mayNot = itemsOf(mayNots[at], place);
                    askAt(place);
                }
            }
        }

        /** Ends the spreading; if it did not come to its end, each value can stand everywhere. */
        void end() {
            for (int place = 0; place < PLACES && fresh != 0; place++) {
                counts[place] = 1;
                depths[place * MOST] = 0;
                wants[place * MOST] = 0;
                misses[place * MOST] = 0;
                helpful = -1L;
                harmful = -1L;
            }
            // A value counts as being of none of what isn't looked at, which would be wrong for what it must not be of.
            long before = 0;
            for (int pass = 0; pass < MOST_SCHEMAS && harmful != before; pass++) {
                before = harmful;
                long items = 0;
                for (int s = 0; s < book.count; s++) {
                    items |= (before >> s & 1) == 1 ? book.nested(s) : 0;
                }
                helpful |= logic.sensed(0, items, 0);
                harmful |= logic.sensed(0, items, 1);
            }
        }

        /** Whether a value of these schemas can stand at a place in an answer, not farther in than this. */
        boolean serves(int place, long bits, int most) {
            for (int i = place * MOST; i < place * MOST + counts[place]; i++) {
                if (((wants[i] & ~bits) | (misses[i] & bits)) == 0 && depths[i] <= most) {
                    return true;
                }
            }
            return false;
        }

        /** Whether a value that can be of some schemas, and must be of others, can stand somewhere in an answer. */
        boolean canServe(long most, long least) {
            for (int place = 0; place < PLACES; place++) {
                for (int i = place * MOST; i < place * MOST + counts[place]; i++) {
                    if (((wants[i] & ~most) | (misses[i] & least)) == 0) {
                        return true;
                    }
                }
            }
            return ((wants[ROOT] & ~most) | (misses[ROOT] & least)) == 0;
        }

        /** The schemas of which all values must be that can stand somewhere, not farther in than this, or be the answer. */
        long needed(int most) {
            long needed = wants[ROOT];
            for (int place = 0; place < PLACES; place++) {
                for (int i = place * MOST; i < place * MOST + counts[place]; i++) {
                    needed &= depths[i] <= most ? wants[i] : -1L;
                }
            }
            return needed;
        }

        private boolean canBe(long wanted, long missed) {
            return ((wanted & (missed | book.never)) | (missed & book.always)) == 0;
        }

        /** Leaves of what is wanted and missed at a place what this way asks for as well, if it can be. */
        private void leaveCommon(int place) {
            long wanted = 0;
            long missed = 0;
            long rest = logic.those();
            for (int n = 0; n < MOST_SCHEMAS && rest != 0; n++) {
                int item = book.below(Long.numberOfTrailingZeros(rest), place);
                rest &= rest - 1;
                wanted |= item < 0 ? 0 : logic.follows[4 * item];
                missed |= item < 0 ? 0 : logic.follows[4 * item + 1];
            }
            rest = place == IN_LIST ? 0 : logic.others();
            for (int n = 0; n < MOST_SCHEMAS && rest != 0; n++) {
                int s = Long.numberOfTrailingZeros(rest);
                rest &= rest - 1;
                // Nothing else can keep the value from being of it.
                if (book.tells(s) == 1 << place && book.barred(s) == 0) {
                    int item = book.below(s, place);
                    wanted |= logic.follows[4 * item + 2];
                    missed |= logic.follows[4 * item + 3];
                }
            }
            if (canBe(wanted, missed)) {
                want &= wanted | book.always;
                miss &= missed | book.never;
            }
        }

        /** The schemas of what is at a place, of all these. */
        private long itemsOf(long schemas, int place) {
            long items = 0;
            for (int s = 0; s < book.count; s++) {
                boolean isSuch = book.kinds[s] == (place == IN_LIST ? 'l' : 'o') && (schemas >> s & 1) == 1;
                items |= isSuch ? Cone.bit(book.below(s, place)) : 0;
            }
            return items;
        }

        /**
         * Asks at a place for what is wanted and missed there. Where a value of size 1 would do for that, and
         * for all that it may not have to be, a greater value must be of something else, too.
         */
        private void askAt(int place) {
            singles |= 1 << place;
            helpful |= logic.sensed(may, mayNot, 0);
            harmful |= logic.sensed(may, mayNot, 1);
            long more = may & ~want & ~book.always;
            if (Long.bitCount(more) > MOST_MORE || !logic.hasSingle(want, miss | mayNot)) {
                ask(place, want, miss);
                return;
            }
            for (int n = 0; n < MOST_MORE && more != 0; n++) {
                int s = Long.numberOfTrailingZeros(more);
                more &= more - 1;
                long wanted = want | (logic.follows[4 * s] & ~book.always);
                long missed = miss | (logic.follows[4 * s + 1] & ~book.never);
                if (canBe(wanted, missed)) {
                    ask(place, wanted, missed);
                }
            }
        }

        /** Adds what is asked at a place, if that is not asked already. */
        private void ask(int place, long wanted, long missed) {
            long yes = logic.sensed(may, mayNot, 0);
            long no = logic.sensed(may, mayNot, 1);
            int from = place * MOST;
            int into = from + counts[place];
            for (int i = from; i < into; i++) {
                boolean isAsked = ((wants[i] & ~wanted) | (misses[i] & ~missed)) == 0 && depths[i] <= depth;
                boolean asksMore = ((wanted & ~wants[i]) | (missed & ~misses[i])) == 0 && depths[i] >= depth;
                if (isAsked || asksMore) {
                    if (!isAsked || ((yes & ~mays[i]) | (no & ~mayNots[i])) != 0) {
                        freshen(i);
                    }
                    wants[i] &= wanted;
                    misses[i] &= missed;
                    depths[i] = Math.min(depths[i], depth);
                    mays[i] |= yes;
                    mayNots[i] |= no;
                    return;
                }
            }
            wants[into] = wanted;
            misses[into] = missed;
            depths[into] = depth;
            mays[into] = yes;
            mayNots[into] = no;
            freshen(into);
            counts[place]++;
            if (counts[place] == (isFine ? MOST : FEW)) {
                mergeTwo(from, into);
                counts[place]--;
            }
        }

        /** Of two of these that have the most in common leaves what both ask for. */
        private void mergeTwo(int from, int last) {
            int one = from;
            int two = last;
            int most = NONE;
            for (int i = from; i < last; i++) {
                for (int k = i + 1; k <= last; k++) {
                    int common = Long.bitCount(wants[i] & wants[k]) + Long.bitCount(misses[i] & misses[k]);
                    if (common > most) {
                        most = common;
                        one = i;
                        two = k;
                    }
                }
            }
            wants[one] &= wants[two];
            misses[one] &= misses[two];
            depths[one] = Math.min(depths[one], depths[two]);
            mays[one] |= mays[two];
            mayNots[one] |= mayNots[two];
            fresh += isFresh[one] ? 0 : 1;
            isFresh[one] = true;
            wants[two] = wants[last];
            misses[two] = misses[last];
            depths[two] = depths[last];
            mays[two] = mays[last];
            mayNots[two] = mayNots[last];
            // The last one is gone, and its place is free.
            fresh -= isFresh[two] && two != last ? 1 : 0;
            isFresh[two] = isFresh[last];
            fresh -= isFresh[last] && two == last ? 1 : 0;
            isFresh[last] = false;
        }
    }

    /**
     * Finds the smallest answer up from the leaves. Values that the schemas can't tell apart count as one:
     * all kinds of values that there are get built by rising sizes, until one answers or nothing new comes.
     * What can't be a part of an answer (see Demands) is left out.
     */
    private static final class Climb {
        private static final int MOST_ROUNDS = 1000000;
        private static final int ENDLESS = Needs.ENDLESS;
        private static final int WIDE = 1024;
        private static final int NARROW = 256;
        /** The tables behind those of the labels: what two and three labels have together, parts of lists, and lists of two parts. */
        private static final int LEFT = LABELS;
        private static final int RIGHT = LABELS + 1;
        private static final int ONES = LABELS + 2;
        private static final int TWOS = LABELS + 3;
        private static final int TABLES = LABELS + 4;
        /** What is joined: for two labels, for three, for lists of two, of three and of four parts, and for records. */
        private static final int PAIRS = 2;
        private static final int THREES = 3;
        private static final int FOURS = 4;
        private static final int RECORDS = 5;
        private static final int JOINS = 6;
        /** For which table it is joined; what is for none is taken in at once. */
        private static final int[] INTO = {LEFT, RIGHT, TWOS};
        /** What a pair of rows costs that is joined for a table, and what is taken in at once and not known yet. */
        private static final int PRICE_FOR_TABLE = 8;
        private static final int PRICE = 24;
        private static final int PRICE_FOR_COUNT = 48;
        /** From how many pairs on it is looked whether to count takes less time than to join them. */
        private static final int MANY = 1 << 18;
        private static final int RANGE = 4;

        private final Cone cone;
        private final Demands demands;
        private final Room room = new Room();
        private final Table[] tables = new Table[TABLES];
        /** The labels, the one with the most rows last; behind them the one whose rows may be lost, or -1. */
        private final int[] order = new int[LABELS + 1];
        /** Of what is joined: both tables, what may come of it, and how many rows of both were joined, each with each. */
        private final Table[] ones = new Table[JOINS];
        private final Table[] others = new Table[JOINS];
        private final long[] masks = new long[JOINS];
        /** Whether nothing that matters can come of it; behind them the same of lists of one part and of two parts. */
        private final boolean[] idle = new boolean[JOINS + 3];
        private final int[] done = new int[2 * JOINS];
        private long must;
        private long mustNot;
        private int least;
        private int best;
        private int largest;
        /** No answer greater than this is of interest, if that is told ahead; then parts of greater ones are left out. */
        private int limit = ENDLESS;
        /** Whether it is only asked whether there is an answer, or no more than that can be told. */
        boolean isAnySize;
        /** How much may still be spent on joining rows. */
        long pairs;
        /** No answer is smaller than this. */
        int floor;
        /** Whether the answer is the smallest size, or that there is none. */
        boolean isSure;

        Climb(Schemas book, Logic logic) {
            cone = new Cone(book);
            demands = new Demands(book, logic);
            for (int i = 0; i < TABLES; i++) {
                tables[i] = new Table(room, cone, i < LABELS ? i : NONE);
            }
            forget();
        }

        /** Forgets what was seen of how many rows the labels have. */
        void forget() {
            for (int i = 0; i < LABELS; i++) {
                order[i] = LABELS - 1 - i;
            }
            order[LABELS] = NONE;
        }

        /** Tells how many rows a table may have, and how much may be spent on joining rows. */
        void allow(int mostRows, long mostPairs) {
            room.rows = mostRows;
            room.quota = mostRows;
            pairs = mostPairs;
            isAnySize = false;
            limit = ENDLESS;
        }

        /** Tells that parts of answers that are not small enough are left out. */
        void confine() {
            limit = 0;
        }

        /**
         * Has the labels joined from now on by how many rows they had. If one had far more than all others, its
         * first rows may be lost where there is no room.
         */
        void arrange() {
            int all = tables[ONES].count;
            for (int i = 0; i < LABELS; i++) {
                all += tables[i].count;
                for (int k = i; k > 0 && tables[order[k]].count < tables[order[k - 1]].count; k--) {
                    int label = order[k];
                    order[k] = order[k - 1];
                    order[k - 1] = label;
                }
            }
            int most = tables[order[LABELS - 1]].count;
            order[LABELS] = most >= WIDE && all - most <= NARROW ? order[LABELS - 1] : NONE;
        }

        /** Whether one label had far more rows than all others. */
        boolean isLine() {
            return order[LABELS] >= 0;
        }

        /** Tells how many rows of one size a table may have; what is more is left out. */
        void thinOut(int mostOfSize) {
            room.quota = mostOfSize;
        }

        /** Tells that it is only asked whether there is an answer: then a greater value can make smaller ones superfluous. */
        void leaveSizes() {
            isAnySize = true;
        }

        /** Asks for a value of all these and of none of those, of this size or a greater one. */
        void ask(long ofAll, long ofNone, int leastSize) {
            must = ofAll;
            least = leastSize;
            mustNot = least > 1 ? ofNone | Logic.PARTLESS : ofNone;
            best = ENDLESS;
            largest = 0;
            floor = 1;
            demands.start(ofAll, ofNone, least > 1, limit < ENDLESS);
            for (int i = 0; i < Demands.MOST_SPREADS && demands.fresh > 0; i++) {
                demands.spread();
            }
            demands.end();
            cone.prepare(demands.helpful, demands.harmful, least > 1);
            startTables();
            startJoins();
        }

        /** The smallest size below this of what was asked for. */
        int find(int below) {
            boolean isConfined = limit < ENDLESS;
            limit = isConfined ? below - 1 : ENDLESS;
            for (int t = 0; t < PAIRS; t++) {
                planSum(t, 0);
                fill(t);
                tables[INTO[t]].close(0);
            }
            addLeaves();
            boolean goesOn = closeAll(1);
            int size = 2;
            int line = order[LABELS];
            for (; size < MOST_SIZE && size < below && size <= MOST_PARTS * largest + 1 && goesOn && !isAnySize; size++) {
                long needed = demands.needed(limit - size);
                for (int t = 0; t < INTO.length; t++) {
                    room.need = t == PAIRS ? cone.listsAmong(needed) : cone.recordsAmong(needed);
                    planSum(t, size - 1);
                    fill(t);
                    tables[INTO[t]].close(size - 1);
                }
                feed(size);
                for (int t = INTO.length; t < JOINS; t++) {
                    room.need = t == RECORDS ? cone.recordsAmong(needed) : cone.listsAmong(needed);
                    planSum(t, size - 1);
                    takeIn(t, size);
                }
                goesOn = closeAll(size);
                isAnySize |= line >= 0 && tables[line].isLost;
            }
            boolean isEnd = goesOn && !isAnySize && size > MOST_PARTS * largest + 1;
            if (isConfined) {
                floor = isEnd && !isThin() ? Math.max(floor, Math.min(below, MOST_SIZE)) : floor;
                isSure = best < ENDLESS && !isAnySize && !isThin();
                return isAnySize ? ENDLESS : best;
            }
            boolean changed = goesOn && !isEnd && (size < below || isAnySize);
            room.need = 0;
            for (int round = 0; round < MOST_ROUNDS && changed && goesOn; round++) {
                for (int t = 0; t < INTO.length; t++) {
                    planRest(t, size - 1);
                    fill(t);
                    tables[INTO[t]].closeRound();
                }
                changed = feed(MOST_SIZE);
                for (int t = INTO.length; t < JOINS; t++) {
                    if (t == RECORDS && wantsMarks()) {
                        changed |= takeMarked();
                    } else {
                        planRest(t, size - 1);
                        changed |= takeIn(t, MOST_SIZE);
                    }
                }
                changed |= line >= 0 && tables[line].isLost;
                goesOn = closeAll(MOST_SIZE);
                isEnd = goesOn && !changed;
            }
            boolean isWhole = !isThin();
            isSure = isWhole && (isEnd || best < ENDLESS);
            floor = isWhole && isEnd ? ENDLESS : floor;
            return best;
        }

        private void startTables() {
            room.replaces = isAnySize;
            room.clear(cone.listWidth(), cone.recordWidth());
            long rising = cone.recordsAmong(cone.rising);
            long falling = cone.recordsAmong(cone.falling);
            for (int i = 0; i < TABLES; i++) {
                Table table = tables[i];
                if (i < LABELS) {
                    table.start(cone.itemsAt(i), cone.itemsOf(rising, i), cone.itemsOf(falling, i));
                    table.addNothing();
                    table.loses = i == order[LABELS];
                } else if (i < ONES) {
                    table.start(cone.recordWidth(), rising, falling);
                } else {
                    table.start(cone.listWidth(), cone.listsAmong(cone.rising), cone.listsAmong(cone.falling));
                }
                table.close(0);
            }
        }

        /** Finds what is to be joined, and whether anything that matters can come of it. */
        private void startJoins() {
            Arrays.fill(done, NONE);
            Arrays.fill(masks, -1L);
            masks[PAIRS] = cone.reaching(2);
            masks[THREES] = cone.taking(3);
            masks[FOURS] = cone.taking(4);
            for (int i = 0; i < 3; i++) {
                int t = i < PAIRS ? i : RECORDS;
                ones[t] = tables[order[i + 1]];
                others[t] = tables[i == 0 ? order[0] : LEFT + i - 1];
            }
            ones[PAIRS] = tables[ONES];
            others[PAIRS] = tables[ONES];
            ones[THREES] = tables[ONES];
            others[THREES] = tables[TWOS];
            ones[FOURS] = tables[TWOS];
            others[FOURS] = tables[TWOS];
            Arrays.fill(idle, isUseless(cone.ofRecords((1L << cone.recordWidth()) - 1), Logic.RECORD));
            for (int length = 1; length <= MOST_PARTS; length++) {
                idle[length < 3 ? JOINS + length : length] = isUseless(cone.ofLists(cone.taking(length)), Logic.LIST);
            }
            room.need = 0;
            idle[PAIRS] = idle[JOINS + 2] && idle[THREES] && idle[FOURS];
        }

        private void addLeaves() {
            add(cone.ofLeaf('z', 0), 1, 0);
            add(cone.ofLeaf('b', 0), 1, 0);
            for (int symbol = 0; symbol <= 9; symbol++) {
                add(cone.ofLeaf('s', symbol), 1, 0);
            }
            for (int i = 0; i < cone.breaks(); i++) {
                add(cone.ofLeaf('n', cone.breakAt(i)), 1, 0);
            }
            add(cone.ofLists(cone.taking(0)), 1, Logic.LIST);
            long empty = cone.withoutLabel(0) & cone.withoutLabel(1) & cone.withoutLabel(2) & cone.withoutLabel(3);
            add(cone.ofRecords(empty), 1, Logic.RECORD);
        }

        /** Takes in a value by the schemas of its own kind; returns whether it is a new part for others. */
        private boolean add(long own, int size, long kind) {
            long bits = cone.joinedUp(own);
            if (size >= least && (must & ~bits) == 0 && (mustNot & (bits | kind)) == 0) {
                best = Math.min(best, size);
                return false;
            }
            int places = size < least ? -1 : size == 1 ? demands.singles : 0;
            boolean isPart = (places >> IN_LIST & 1) == 1 || demands.serves(IN_LIST, bits, limit - size);
            boolean isNew = isPart && tables[ONES].insert(cone.asPart(bits));
            for (int label = 0; label < LABELS; label++) {
                if ((places >> label & 1) == 1 || demands.serves(label, bits, limit - size)) {
                    long row = cone.atLabel(bits, label);
                    isNew |= !cone.isNothingAsGood(row, label, tables[LEFT].more, tables[LEFT].fewer) && tables[label].insert(row);
                }
            }
            largest = isNew ? size : largest;
            return isNew;
        }

        /** Whether no value that is of some of these schemas, and no others of its kind, can be an answer or a part of one. */
        private boolean isUseless(long own, long kind) {
            long most = cone.bound(own, true);
            long lowest = cone.bound(own, false);
            return !demands.canServe(most, lowest | kind);
        }

        private void addRange(int from, int to, int otherFrom, int otherTo) {
            int at = room.rangesEnd;
            if (from < to && otherFrom < otherTo && at + RANGE <= room.ranges.length) {
                room.ranges[at] = from;
                room.ranges[at + 1] = to;
                room.ranges[at + 2] = otherFrom;
                room.ranges[at + 3] = otherTo;
                room.rangesEnd = at + RANGE;
            }
        }

        /** Finds the rows that are to be joined whose sizes make this sum. */
        private void planSum(int t, int sum) {
            Table one = ones[t];
            Table other = others[t];
            room.rangesEnd = 0;
            room.leaveGround();
            // What is joined with itself needs no pair twice.
            int last = Math.min(one == other ? sum / 2 : sum, one.top());
            for (int size = Math.max(0, sum - other.top()); size <= last && !isIdle(t); size++) {
                addRange(one.startOf(size), one.startOf(size + 1), other.startOf(sum - size), other.startOf(sum - size + 1));
            }
        }

        /** Finds the rows that were not joined; at first those of sizes with a smaller sum than this were. */
        private void planRest(int t, int sum) {
            Table one = ones[t];
            Table other = others[t];
            int before = done[2 * t];
            int otherEnd = other.opened;
            room.rangesEnd = 0;
            room.leaveGround();
            if (isIdle(t)) {
                return;
            }
            for (int size = 0; size <= one.top() && before < 0; size++) {
                addRange(one.startOf(size), one.startOf(size + 1), other.behind(sum - size), otherEnd);
            }
            addRange(before < 0 ? one.behind(MOST_SIZE) : before, one.opened, 0, otherEnd);
            // What is joined with itself needs no pair twice.
            addRange(0, one == other ? 0 : before, done[2 * t + 1], otherEnd);
            done[2 * t] = one.opened;
            done[2 * t + 1] = otherEnd;
            long all = 0;
            for (int r = 0; r < room.rangesEnd; r += RANGE) {
                all += (long) (room.ranges[r + 1] - room.ranges[r]) * (room.ranges[r + 3] - room.ranges[r + 2]);
            }
            if (all > MANY && one.lost == 0) {
                countAll(t, all);
            }
        }

        /** Counts what all rows have together, if this takes less time than to join so many pairs. */
        private void countAll(int t, long all) {
            Table one = ones[t];
            Table other = others[t];
            long always = -1L;
            long some = 0;
            long otherSome = 0;
            for (int i = 0; i < one.opened; i++) {
                long key = one.keyAt(i) & masks[t];
                always &= key;
                some |= key;
            }
            for (int i = 0; i < other.opened; i++) {
                long key = other.keyAt(i) & masks[t];
                always &= key;
                otherSome |= key;
            }
            if (!room.takeGround(some & otherSome & ~always, always)) {
                return;
            }
            long price = (long) room.groundSize() * PRICE_FOR_COUNT * room.groundParts();
            if (price > all) {
                room.leaveGround();
                return;
            }
            pairs -= price;
            room.rangesEnd = 0;
            addRange(0, 1, 0, room.groundSize() * room.groundParts());
        }

        /**
         * Counts what all rows have together that are in one part. Of each bit that is too much to be counted with the
         * others, three parts tell: both have it; the one has it not, whatever the other has; only the one has it.
         */
        private void count(int t, int part) {
            Table one = ones[t];
            Table other = others[t];
            long rest = room.topSpots();
            long oneMask = rest;
            long oneHas = 0;
            long otherMask = 0;
            long otherHas = 0;
            int told = part;
            for (int i = 0; i < Long.SIZE && rest != 0; i++) {
                long bit = rest & -rest;
                rest &= rest - 1;
                oneHas |= told % 3 == 1 ? 0 : bit;
                otherMask |= told % 3 == 1 ? 0 : bit;
                otherHas |= told % 3 == 0 ? bit : 0;
                told /= 3;
            }
            room.clearGround();
            for (int i = 0; i < one.opened; i++) {
                long key = one.keyAt(i);
                if ((key & oneMask) == oneHas) {
                    room.lay(key, 0);
                }
            }
            for (int i = 0; i < other.opened; i++) {
                long key = other.keyAt(i);
                if ((key & otherMask) == otherHas) {
                    room.lay(key, 1);
                }
            }
            room.countPairs();
        }

        /** Whether there is nothing to join; lists of a length that no schema takes are all alike, the first one is the smallest. */
        private boolean isIdle(int t) {
            return idle[t] || ((t == THREES || t == FOURS) && masks[t] == 0 && room.hasSifted(0, Logic.LISTS));
        }

        /** Puts in a table what it has of the rows that are to be joined. */
        private void fill(int t) {
            Table into = tables[INTO[t]];
            for (int r = 0; r < room.rangesEnd; r += RANGE) {
                int at = room.ranges[r + 2];
                for (int n = at; n < room.ranges[r + 3] && at < room.ranges[r + 3] && !into.spilled; n++) {
                    if (room.isCounted() && (at & room.groundSize() - 1) == 0) {
                        count(t, at / room.groundSize());
                    }
                    int loaded = room.isCounted() ? room.load(at, room.ranges[r + 3]) : others[t].load(at, room.ranges[r + 3], masks[t]);
                    at = room.loadedTo;
                    for (int i = room.ranges[r]; i < room.ranges[r + 1] && loaded > 0 && !into.spilled; i++) {
                        long key = room.isCounted() ? -1L : ones[t].keyAt(i);
                        int found = (room.need & ~key) == 0 ? into.sift(key, loaded) : 0;
                        pairs -= 1 + ((room.need & ~key) == 0 ? loaded + PRICE_FOR_TABLE * found : 0);
                        into.spilled |= pairs <= 0;
                        for (int k = 0; k < found; k++) {
                            into.insert(room.fresh[k]);
                        }
                    }
                }
            }
        }

        /** Takes in, as values of a size, what comes of the rows that are to be joined; returns whether there are new parts. */
        private boolean takeIn(int t, int size) {
            Table one = ones[t];
            boolean changed = false;
            boolean isRecord = t == RECORDS;
            int kind = isRecord ? Logic.RECORDS : Logic.LISTS;
            room.refine(kind);
            for (int r = 0; r < room.rangesEnd; r += RANGE) {
                int at = room.ranges[r + 2];
                for (int n = at; n < room.ranges[r + 3] && at < room.ranges[r + 3] && pairs > 0 && best == ENDLESS; n++) {
                    if (room.isCounted() && (at & room.groundSize() - 1) == 0) {
                        count(t, at / room.groundSize());
                    }
                    int loaded = room.isCounted() ? room.load(at, room.ranges[r + 3]) : others[t].load(at, room.ranges[r + 3], masks[t]);
                    at = room.loadedTo;
                    for (int i = room.ranges[r]; i < room.ranges[r + 1] && loaded > 0 && pairs > 0 && best == ENDLESS; i++) {
                        // The last rows may take the place of those that are to be joined.
                        boolean isLost = i < one.lost && !room.isCounted();
                        one.isLost |= isLost;
                        long key = room.isCounted() || isLost ? -1L : one.keyAt(i);
                        pairs--;
                        if (isLost || (room.need & ~key) != 0) {
                            continue;
                        }
                        int found = room.sift(key, loaded, kind);
                        pairs -= loaded + PRICE * found;
                        for (int k = 0; k < found && best == ENDLESS; k++) {
                            long own = isRecord ? cone.ofRecords(room.fresh[k]) : cone.ofLists(room.fresh[k]);
                            changed |= add(own, size, isRecord ? Logic.RECORD : Logic.LIST);
                        }
                    }
                }
            }
            return changed;
        }

        /** Whether records are to be joined of which rows were lost. */
        private boolean wantsMarks() {
            int line = order[LABELS];
            if (line < 0 || tables[line].lost == 0) {
                return false;
            }
            Table one = tables[line];
            return one.isLost || done[2 * RECORDS] < one.lost || done[2 * RECORDS + 1] < others[RECORDS].opened;
        }

        /** Takes in all records again, by the marks of the rows that they are joined of; returns whether there are new parts. */
        private boolean takeMarked() {
            Table one = ones[RECORDS];
            Table other = others[RECORDS];
            boolean changed = false;
            int words = one.markWords();
            int line = order[LABELS];
            one.isLost = false;
            done[2 * RECORDS] = one.opened;
            done[2 * RECORDS + 1] = other.opened;
            for (int at = 0; at < other.opened && pairs > 0; at += Room.LANE) {
                int loaded = other.load(at, other.opened, -1L);
                // That nothing is at the label has no mark.
                for (int word = NONE; word < words && pairs > 0 && best == ENDLESS; word++) {
                    long rest = word < 0 ? 1 : one.marksAt(word);
                    for (int n = 0; n < Long.SIZE && rest != 0; n++) {
                        long row = (long) word << 6 | Long.numberOfTrailingZeros(rest);
                        rest &= rest - 1;
                        long key = word < 0 ? cone.withoutLabel(line) : cone.keyOf(row, line);
                        int found = room.sift(key, loaded, Logic.RECORDS);
                        pairs -= loaded + PRICE * found;
                        for (int k = 0; k < found && best == ENDLESS; k++) {
                            changed |= add(cone.ofRecords(room.fresh[k]), MOST_SIZE, Logic.RECORD);
                        }
                    }
                }
            }
            return changed;
        }

        /** Takes in the lists of one part and of two parts that were joined; returns whether there are new parts. */
        private boolean feed(int size) {
            boolean changed = false;
            for (int length = 1; length <= 2; length++) {
                Table table = tables[ONES - 1 + length];
                int end = table.opened;
                for (int i = table.fed; i < end && best == ENDLESS && !idle[JOINS + length]; i++) {
                    room.lane[0] = table.keyAt(i) & cone.taking(length);
                    if (room.sift(-1L, 1, Logic.LISTS) == 1) {
                        changed |= add(cone.ofLists(room.fresh[0]), size, Logic.LIST);
                    }
                }
                table.fed = end;
            }
            return changed;
        }

        /** Ends a size; returns whether there is still something to look for, and room and time for it. */
        private boolean closeAll(int size) {
            boolean goesOn = best == ENDLESS && pairs > 0;
            for (int i = 0; i < TABLES; i++) {
                goesOn &= !tables[i].spilled;
                if (i < LABELS || i == ONES) {
                    tables[i].close(size);
                }
            }
            boolean isWhole = goesOn && !isThin() && !isAnySize && (order[LABELS] < 0 || !tables[order[LABELS]].isLost);
            floor = isWhole ? Math.min(size + 1, MOST_SIZE) : floor;
            return goesOn;
        }

        /** Whether something was left out. */
        private boolean isThin() {
            boolean isThin = false;
            for (Table table : tables) {
                isThin |= table.isThin;
            }
            return isThin;
        }
    }

    /**
     * What values must be of and must not be of, each pair once, with the smallest size found for it and
     * the size below which it was looked into. On the trail are those to look into, the newest first;
     * later come once more those that hang on others that were not settled, as long as something changes.
     */
    private static final class Needs {
        static final int ENDLESS = 1 << 20;
        /** No list or record that is not empty is smaller. */
        static final int LEAST_DEEP = 2;
        private static final int LEAST_ROOM = 64;
        private static final int MOST_ROOM = 1 << 17;
        private static final int GROWTH = 64;
        private static final int IDLE = 0;
        private static final int LISTED = 1;
        private static final int BARREN = 2;
        private static final int COVERED = -2;
        private static final int MOST_COVERS = 128;

        long[] yes = new long[LEAST_ROOM];
        long[] no = new long[LEAST_ROOM];
        private int[] sizes = new int[LEAST_ROOM];
        private int[] reaches = new int[LEAST_ROOM];
        private int[] marks = new int[LEAST_ROOM];
        private int[] slots = new int[2 * LEAST_ROOM];
        private int[] trail = new int[LEAST_ROOM];
        private int[] later = new int[LEAST_ROOM];
        private int[] tries = new int[LEAST_ROOM];
        /** Some that no value meets: what asks for more than one of them is not met, either. */
        private final int[] covers = new int[MOST_COVERS];
        private int coverCount;
        private int rowOfLooks;
        private int count;
        private int trailCount;
        private int laterCount;
        private boolean changed;
        /** The size from which on nothing is asked for. */
        private int most;
        /** Whether what is looked into hangs on something that is not settled. */
        private boolean isOpen;
        /** How many more may come in until the next look. */
        int fresh;
        /** The one that is looked into, or -1. */
        int current = NONE;

        /** Forgets all that is known. */
        void clear() {
            Arrays.fill(slots, 0);
            count = 0;
            coverCount = 0;
        }

        /** Starts a row of looks with an empty trail, for sizes below this one, with room for what is asked for. */
        void start(int reach) {
            drop();
            if (count > MOST_ROOM / 2) {
                clear();
            }
            rowOfLooks++;
            most = reach;
            fresh = hasRoom(1) ? 1 : 0;
        }

        /** Whether any size does, for it is only asked whether there is one. */
        boolean isProof() {
            return most == ENDLESS;
        }

        /** Takes off the lists what was not looked into to the end. */
        void drop() {
            for (int i = 0; i < trailCount; i++) {
                forget(trail[i]);
            }
            for (int i = 0; i < laterCount; i++) {
                forget(later[i]);
            }
            trailCount = 0;
            laterCount = 0;
            changed = false;
            current = NONE;
            fresh = 0;
        }

        private void forget(int place) {
            marks[place] = IDLE;
            reaches[place] = 0;
        }

        boolean isBusy() {
            return trailCount + laterCount > 0;
        }

        private boolean hasRoom(int more) {
            if (count + more <= yes.length) {
                return true;
            }
            int room = Math.min(GROWTH * yes.length, MOST_ROOM);
            if (count + more > room) {
                return false;
            }
            yes = Arrays.copyOf(yes, room);
            no = Arrays.copyOf(no, room);
            sizes = Arrays.copyOf(sizes, room);
            reaches = Arrays.copyOf(reaches, room);
            marks = Arrays.copyOf(marks, room);
            trail = Arrays.copyOf(trail, room);
            later = Arrays.copyOf(later, room);
            tries = Arrays.copyOf(tries, room);
            slots = new int[2 * room];
            for (int i = 0; i < count; i++) {
                slots[slotOf(yes[i], no[i])] = i + 1;
            }
            return true;
        }

        private int slotOf(long must, long mustNot) {
            long mixed = (must * 0x9E3779B97F4A7C15L ^ mustNot) * 0xC2B2AE3D27D4EB4FL;
            int mask = slots.length - 1;
            int slot = (int) (mixed >>> 32) & mask;
            for (int i = 0; i < slots.length && slots[slot] > 0; i++) {
                int there = slots[slot] - 1;
                if (yes[there] == must && no[there] == mustNot) {
                    return slot;
                }
                slot = (slot + 1) & mask;
            }
            return slot;
        }

        /**
         * The place of a pair, which may be new, or -1 if no more may come in now, or -2 if no value meets
         * it, as is seen from all that follows from it.
         */
        int placeOf(long must, long mustNot, long followsYes, long followsNo) {
            int slot = slotOf(must, mustNot);
            if (slots[slot] > 0) {
                return slots[slot] - 1;
            }
            for (int i = 0; i < MOST_COVERS && i < coverCount; i++) {
                int cover = covers[i];
                if (((yes[cover] & ~followsYes) | (no[cover] & ~followsNo)) == 0) {
                    return COVERED;
                }
            }
            if (fresh <= 0 || count >= yes.length) {
                return NONE;
            }
            int made = count;
            yes[made] = must;
            no[made] = mustNot;
            sizes[made] = ENDLESS;
            reaches[made] = 0;
            marks[made] = IDLE;
            tries[made] = 0;
            count++;
            slots[slot] = count;
            return made;
        }

        /** The smallest size known at a place; if there may be a smaller one below the limit, it comes on the trail. */
        int sizeAt(int place, int limit) {
            if (place == COVERED) {
                return ENDLESS;
            }
            if (place < 0) {
                isOpen = true;
                return ENDLESS;
            }
            // A value is greater than its parts, so that asking for itself makes none that is smaller.
            if (place == current || marks[place] == BARREN) {
                return ENDLESS;
            }
            int known = sizes[place];
            if (isEnough(known)) {
                return known;
            }
            if (marks[place] == LISTED) {
                isOpen = true;
                changed |= limit > reaches[place];
                reaches[place] = limit > reaches[place] ? raised(place, limit) : reaches[place];
                return known;
            }
            if (!isProof() && (known <= reaches[place] || limit <= reaches[place])) {
                return known < limit ? known : ENDLESS;
            }
            isOpen = true;
            if (fresh > 0) {
                fresh--;
                marks[place] = LISTED;
                reaches[place] = raised(place, limit);
                trail[trailCount] = place;
                trailCount++;
            }
            return known;
        }

        /** What was looked into ahead, and not far enough, is looked into twice as far. */
        private int raised(int place, int limit) {
            return Math.min(most, Math.max(limit, 2 * reaches[place]));
        }

        /** Goes to the next one to look into, with room for so many new ones; false if there is none, or no room. */
        boolean goesOn(int more) {
            if (trailCount == 0 && isProof() && current >= 0 && sizes[current] < ENDLESS) {
                // The last one is the question itself, and there is one.
                drop();
            }
            if (trailCount == 0) {
                goBack();
            }
            boolean goes = trailCount > 0 && hasRoom(more);
            current = goes ? trail[trailCount - 1] : NONE;
            fresh = goes ? more : 0;
            isOpen = false;
            return goes;
        }

        /** Takes up again those that hang on others, or settles them, if nothing changed meanwhile. */
        private void goBack() {
            for (int i = laterCount - 1; i >= 0; i--) {
                if (changed) {
                    trail[trailCount] = later[i];
                    trailCount++;
                } else {
                    settle(later[i]);
                }
            }
            laterCount = 0;
            changed = false;
        }

        private void settle(int place) {
            boolean isBarren = most == ENDLESS && sizes[place] == ENDLESS;
            marks[place] = isBarren ? BARREN : IDLE;
            reaches[place] = most == ENDLESS ? 0 : reaches[place];
            if (isBarren) {
                covers[coverCount % MOST_COVERS] = place;
                coverCount++;
            }
        }

        /** Whether the current one was not tried otherwise in this row of looks; asking counts as trying. */
        boolean isUntried() {
            boolean untried = current >= 0 && tries[current] != rowOfLooks;
            if (untried) {
                tries[current] = rowOfLooks;
            }
            return untried;
        }

        /** The size below which a smaller one than is known of the current one is of interest. */
        int reach() {
            return current < 0 ? 0 : Math.min(sizes[current], reaches[current]);
        }

        void lower(int size) {
            if (current >= 0 && size < reach()) {
                sizes[current] = size;
                changed = true;
            }
        }

        /** Whether a size needs no look for a smaller one. */
        boolean isEnough(int size) {
            return size <= LEAST_DEEP || (most == ENDLESS && size < ENDLESS);
        }

        /**
         * Puts the current one away, unless something came in that has to be looked into ahead of it. If
         * its size is enough, what came in for it goes again.
         */
        void done(int size) {
            boolean isEnough = isEnough(size);
            for (int i = trailCount - 1; i >= 0 && isEnough && trail[i] != current; i--) {
                forget(trail[i]);
                trailCount--;
            }
            if (trailCount == 0 || trail[trailCount - 1] != current) {
                return;
            }
            trailCount--;
            if (isEnough || !isOpen) {
                settle(current);
            } else {
                later[laterCount] = current;
                laterCount++;
            }
        }
    }

    /**
     * Finds the smallest value of one schema that is not of another one, by two ways in turns: up from the
     * leaves (see Climb), and down from the question: what a value must and must not be of is split until
     * lists and records alone are left, and these ask the same of their parts. Each way is sure of its
     * answer if it came to its end. On the way down a value of size 1 is looked for first, so all else is
     * about lists and records that are not empty, and what is asked of a part is tried up from the leaves, too.
     */
    private static final class Search {
        /**
         * Three turns each: up, down, up to sizes that rise, and up for any size; and in which order they are
         * taken: those that take less time first.
         */
        private static final int TURNS = 3;
        private static final int[] STEPS = {0, 3, 1, 10, 7, 8, 4, 11, 2, 5};
        private static final int SHORT_STEPS = 3;
        private static final int[] ROWS = {512, 1 << 20, 1 << 26};
        private static final long[] PAIRS = {3200000, 240000000, 6000000000L};
        private static final int[] ASKED = {50000, 700000, 1500000};
        /** The same on the way to sizes that rise, for any size, and where some rows are left out. */
        private static final long[] PAIRS_CONFINED = {0, 80000000, 2400000000L};
        private static final long[] PAIRS_ANY = {0, 80000000, 6000000000L};
        private static final int MOST_ROWS_THIN = 8192;
        private static final long PAIRS_THIN = 80000000;
        private static final long[] PART_PAIRS = {3200000, 80000000, 960000000};
        /** How much of the time for all parts one of them may take. */
        private static final int SHARE = 64;
        private static final int ROWS_OF_SIZE = 200;
        /** How many questions the turns that are not short may ask in all, and what pairs of rows count as one question. */
        private static final int PATIENCE = 60000000;
        private static final int PAIRS_A_QUESTION = 1024;
        private static final int FRESH = 32;
        private static final int FRESH_PROOF = 8;
        private static final int REACHES = 8;
        private static final int LEAST_REACH = 4;
        private static final int MOST_LOOKS = 100000000;
        private static final int MOST_SPLITS = 1000000;
        private static final int[] SHAPES = {1, 2, 4, 8, 3, 5, 6, 9, 10, 12, 7, 11, 13, 14, 15};
        private static final int[] LENGTHS = {1, 3, 7, 15};
        private static final int UNKNOWN = -1;
        private static final int UNSURE = 1 << 16;

        private final Schemas told;
        private final Verdicts verdicts;
        /** What is told, in its plain form. */
        private final Schemas book = new Schemas();
        private final Logic logic;
        private final Climb climb;
        private final Needs needs = new Needs();
        /** For each part: of what it must be, of what not, and of what others see to that it is not. */
        private final long[] wants = new long[MOST_PARTS];
        private final long[] misses = new long[MOST_PARTS];
        private final long[] barred = new long[MOST_PARTS];
        private final int[] costs = new int[MOST_PARTS];
        private final int[] twins = new int[MOST_PARTS];
        private final int[] answers = new int[MOST_SCHEMAS * (MOST_SCHEMAS + 1)];
        private int edition = UNKNOWN;
        /** Of many hard questions the later ones get less time, so that a run comes to its end. */
        private int patience = PATIENCE;
        /** No answer is smaller than this. */
        private int lower;
        private int best;
        private int left;
        /** Whether there is an answer, perhaps of a size that is not known. */
        private boolean isThere;
        private boolean isSure;

        Search(Schemas told, Verdicts verdicts) {
            this.told = told;
            this.verdicts = verdicts;
            logic = new Logic(book);
            climb = new Climb(book, logic);
        }

        /** The size of the smallest value of a schema and not of another one (-1: of any); 0 if there is none. */
        int smallest(int schema, int other) {
            if (!told.has(schema) || schema == other) {
                return 0;
            }
            refresh();
            int first = book.stands[schema];
            int second = other < 0 ? NONE : book.stands[other];
            int place = first * (MOST_SCHEMAS + 1) + second + 1;
            if (answers[place] == UNKNOWN) {
                long must = Cone.bit(first);
                long mustNot = Cone.bit(second);
                int found = Needs.ENDLESS;
                climb.forget();
                lower = 1;
                isThere = false;
                isSure = first == second;
                for (int i = 0; i < STEPS.length && !isSure && (i < SHORT_STEPS || patience > 0); i++) {
                    int turn = STEPS[i] % TURNS;
                    int made = turn == 1 ? verdicts.leastSize(schema, other) : 0;
                    found = made > 0 ? Math.min(found, made) : found;
                    int way = STEPS[i] / TURNS;
                    found = way == 0 ? up(must, mustNot, found, turn) : way == 1 ? down(must, mustNot, found, turn)
                            : way == 2 ? confined(must, mustNot, found, turn) : anySize(must, mustNot, found, turn);
                    // Greater ones all count the same.
                    found = isThere && lower >= MOST_SIZE ? MOST_SIZE : found;
                    isSure |= found <= lower;
                }
                // Of what has no small value and very many kinds of great ones there most often is one.
                boolean isGreat = !isSure && lower >= MOST_SIZE;
                found = found == Needs.ENDLESS && (isThere || isGreat) ? Math.min(lower, MOST_SIZE) : found;
                answers[place] = (found == Needs.ENDLESS ? 0 : found) | (isSure ? 0 : UNSURE);
            }
            int answer = answers[place] & ~UNSURE;
            if (answer == answers[place]) {
                return answer;
            }
            // A value that was made since can tell more.
            int made = verdicts.leastSize(schema, other);
            return answer == 0 ? made : made == 0 ? answer : Math.min(answer, made);
        }

        /** Gets ready for the schemas as they are. */
        private void refresh() {
            if (edition == told.edition && book.count == told.count) {
                return;
            }
            // A new schema changes nothing for the other ones.
            if (edition != told.edition) {
                Arrays.fill(answers, UNKNOWN);
                needs.clear();
            }
            edition = told.edition;
            book.becomePlain(told);
            logic.prepare();
        }

        /**
         * The smallest size found on the way up, or the one known, if none is smaller. If there are too many
         * kinds of values, some are left out, which may find an answer, though not the smallest one.
         */
        private int up(long must, long mustNot, int known, int turn) {
            long most = PAIRS[turn];
            climb.allow(ROWS[turn], most);
            climb.ask(must, mustNot, 1);
            int size = climb.find(known);
            int found = climb.isAnySize ? known : Math.min(known, size);
            long pairs = most - climb.pairs;
            lower = Math.max(lower, climb.floor);
            isThere |= size < Needs.ENDLESS;
            isSure = found <= lower || (climb.isSure && (!climb.isAnySize || size == Needs.ENDLESS));
            climb.arrange();
            if (!isSure && found == Needs.ENDLESS && turn > 0) {
                climb.allow(MOST_ROWS_THIN, PAIRS_THIN);
                climb.thinOut(ROWS_OF_SIZE);
                climb.ask(must, mustNot, 1);
                found = climb.find(found);
                pairs += PAIRS_THIN - climb.pairs;
            }
            patience -= turn == TURNS - 1 ? (int) (pairs / PAIRS_A_QUESTION) : 0;
            return found;
        }

        /** Finds on the way up whether there is an answer of any size at all, unless one is known. */
        private int anySize(long must, long mustNot, int known, int turn) {
            if (known < Needs.ENDLESS || isThere || (turn == TURNS - 1 && climb.isLine())) {
                return known;
            }
            climb.allow(ROWS[turn], PAIRS_ANY[turn]);
            climb.leaveSizes();
            climb.ask(must, mustNot, 1);
            isThere = climb.find(known) < Needs.ENDLESS;
            isSure = climb.isSure && !isThere;
            patience -= turn == TURNS - 1 ? (int) ((PAIRS_ANY[turn] - climb.pairs) / PAIRS_A_QUESTION) : 0;
            return known;
        }

        /**
         * The smallest size found on the way up to sizes that rise, or the one known, if none is smaller: what
         * can only be a part of greater answers is left out each time.
         */
        private int confined(long must, long mustNot, int known, int turn) {
            int found = known;
            long most = PAIRS_CONFINED[turn];
            long pairs = most;
            // Along a line there are no more parts of greater values than of small ones.
            boolean goesOn = !climb.isLine();
            for (int reach = nextReach(lower); reach <= 2 * MOST_SIZE && goesOn && !isSure; reach = nextReach(reach)) {
                int below = Math.min(found, Math.min(reach, MOST_SIZE));
                climb.allow(ROWS[turn], pairs);
                climb.confine();
                climb.ask(must, mustNot, 1);
                found = Math.min(found, climb.find(below));
                pairs = climb.pairs;
                lower = Math.max(lower, climb.floor);
                isSure = climb.isSure || found <= lower;
                goesOn = climb.floor >= below && below < MOST_SIZE && pairs > 0;
                climb.arrange();
            }
            patience -= turn == TURNS - 1 ? (int) ((most - pairs) / PAIRS_A_QUESTION) : 0;
            return found;
        }

        private static int nextReach(int reach) {
            return reach + reach / 8 + 2;
        }

        /**
         * The smallest size found on the way down, or the one known, if none is smaller. First it is asked
         * whether there is one at all, unless one is known, and then for one below a size that doubles.
         */
        private int down(long must, long mustNot, int known, int turn) {
            int found = known;
            long pairs = 0;
            boolean goesOn = true;
            for (int phase = known < Needs.ENDLESS || isThere ? 1 : 0; phase <= REACHES && goesOn; phase++) {
                int reach = phase == 0 ? Needs.ENDLESS : Math.min(LEAST_REACH << phase, found);
                left = phase <= 1 ? ASKED[turn] : left;
                pairs = phase <= 1 ? PART_PAIRS[turn] : pairs;
                if (reach <= lower) {
                    continue;
                }
                int asked = left;
                needs.start(reach);
                cost(must, mustNot, reach);
                for (int look = 0; look < MOST_LOOKS && needs.goesOn(phase == 0 ? FRESH_PROOF : FRESH); look++) {
                    best = needs.reach();
                    boolean isClimbed = false;
                    if (pairs > 0 && needs.isUntried()) {
                        long share = Math.min(pairs, PART_PAIRS[turn] / SHARE);
                        climb.allow(ROWS[turn], share);
                        climb.ask(needs.yes[needs.current], needs.no[needs.current], Needs.LEAST_DEEP);
                        int size = climb.find(best);
                        pairs -= share - climb.pairs;
                        isClimbed = climb.isSure || climb.floor >= best;
                        best = Math.min(best, size);
                    }
                    if (!isClimbed) {
                        lookInto(Logic.LISTS);
                        lookInto(Logic.RECORDS);
                    }
                    needs.lower(best);
                    if (left <= 0) {
                        break;
                    }
                    needs.done(best);
                }
                boolean ended = !needs.isBusy();
                patience -= turn > 0 ? asked - left : 0;
                found = Math.min(found, cost(must, mustNot, reach));
                lower = ended && phase > 0 ? Math.max(lower, Math.min(reach, Math.min(found, MOST_SIZE))) : lower;
                isSure = found <= lower || (ended && (phase == 0 ? found == Needs.ENDLESS : found <= reach));
                goesOn = !isSure && (phase == 0 || ended);
            }
            needs.drop();
            return found;
        }

        /** Looks for smaller lists, or records, that meet what is asked for. */
        private void lookInto(int kind) {
            int[] shapes = kind == Logic.LISTS ? LENGTHS : SHAPES;
            logic.open(needs.yes[needs.current], needs.no[needs.current], kind, 0, MOST_SPLITS);
            for (int way = 0; way <= MOST_SPLITS && !isHalted() && logic.next(); way++) {
                left = logic.isCut ? 0 : left;
                long those = logic.those();
                long others = logic.others() & ~logic.nevers[kind];
                for (int i = 0; i < shapes.length && !isHalted(); i++) {
                    if (1 + Long.bitCount(shapes[i]) < best) {
                        assign(rivals(shapes[i], others), 0, opened(shapes[i], those, others));
                    }
                }
            }
        }

        /** Whether the current look needs to go no further: it found enough, or has to wait for what came in. */
        private boolean isHalted() {
            return left <= 0 || needs.fresh <= 0 || needs.isEnough(best);
        }

        /** The size below which a part is of use, if all else has this size. */
        private int limit(int others) {
            return needs.isProof() ? Needs.ENDLESS : best - others;
        }

        /** Those that some part must keep a value with parts at these places from. */
        private long rivals(int places, long others) {
            long rivals = others;
            long rest = others;
            for (int n = 0; n < MOST_SCHEMAS && rest != 0; n++) {
                int s = Long.numberOfTrailingZeros(rest);
                rest &= rest - 1;
                rivals &= takes(s, places) ? -1L : ~Cone.bit(s);
            }
            return rivals;
        }

        private boolean takes(int s, int places) {
            return ((book.needed(s) & ~places) | (book.barred(s) & places)) == 0;
        }

        /** The size, so far, of a value with parts at these places; ENDLESS if there can't be one. */
        private int opened(int places, long those, long others) {
            Arrays.fill(wants, 0);
            Arrays.fill(misses, 0);
            Arrays.fill(barred, book.always);
            Arrays.fill(costs, 0);
            long rest = those;
            for (int n = 0; n < MOST_SCHEMAS && rest != 0; n++) {
                int s = Long.numberOfTrailingZeros(rest);
                rest &= rest - 1;
                if (!takes(s, places)) {
                    return Needs.ENDLESS;
                }
                for (int i = 0; i < MOST_PARTS; i++) {
                    add(i, book.below(s, i), 0);
                }
            }
            int total = 1;
            for (int i = 0; i < MOST_PARTS && total < best; i++) {
                int behind = Integer.bitCount(places >> i >> 1);
                twins[i] = twinOf(i, places, others);
                costs[i] = (places >> i & 1) == 0 ? 0 : cost(wants[i], misses[i], limit(total + behind));
                total += costs[i];
            }
            return total;
        }

        /** Adds to a part what it must be (0) or not be (2), and what follows. */
        private void add(int part, int item, int not) {
            if (item >= 0) {
                wants[part] |= logic.follows[4 * item + not];
                misses[part] |= logic.follows[4 * item + not + 1];
            }
        }

        /** The last place ahead of this one where all the same is asked for, or -1. */
        private int twinOf(int place, int places, long others) {
            for (int i = place - 1; i >= 0; i--) {
                boolean same = (places >> i & 1) == 1 && wants[i] == wants[place] && misses[i] == misses[place];
                long rest = others;
                for (int n = 0; n < MOST_SCHEMAS && rest != 0 && same; n++) {
                    int s = Long.numberOfTrailingZeros(rest);
                    rest &= rest - 1;
                    same = book.below(s, i) == book.below(s, place);
                }
                if (same) {
                    return i;
                }
            }
            return NONE;
        }

        /**
         * Gives each of these rivals a part that keeps the value from being of it, the one with the fewest
         * ways first. What a way covers is barred from those behind it.
         */
        private void assign(long rivals, int touched, int total) {
            if (total >= best || isHalted()) {
                return;
            }
            int s = nextOf(rivals, touched);
            if (s < 0) {
                best = Math.min(total, MOST_SIZE);
                return;
            }
            long one = barred[0];
            long two = barred[1];
            long three = barred[2];
            long four = barred[3];
            for (int i = 0; i < MOST_PARTS; i++) {
                if (helps(s, i, touched)) {
                    long wanted = wants[i];
                    long missed = misses[i];
                    int was = costs[i];
                    add(i, book.below(s, i), 2);
                    if ((misses[i] & (barred[i] | wants[i])) == 0) {
                        costs[i] = cost(wants[i], misses[i], limit(total - was));
                        assign(rivals & ~Cone.bit(s), touched | 1 << i, total - was + costs[i]);
                    }
                    wants[i] = wanted;
                    misses[i] = missed;
                    costs[i] = was;
                    bar(s, i, touched);
                }
            }
            barred[0] = one;
            barred[1] = two;
            barred[2] = three;
            barred[3] = four;
        }

        /** The rival with the fewest ways left, or -1 if the value is kept from all of them. */
        private int nextOf(long rivals, int touched) {
            int next = NONE;
            int fewest = MOST_PARTS + 1;
            long rest = rivals;
            for (int n = 0; n < MOST_SCHEMAS && rest != 0; n++) {
                int s = Long.numberOfTrailingZeros(rest);
                rest &= rest - 1;
                int ways = 0;
                for (int i = 0; i < MOST_PARTS; i++) {
                    boolean isMissed = costs[i] > 0 && Cone.holds(misses[i], book.below(s, i));
                    ways += isMissed ? MOST_PARTS + 1 : helps(s, i, touched) ? 1 : 0;
                }
                next = ways < fewest ? s : next;
                fewest = Math.min(ways, fewest);
            }
            return next;
        }

        /** Whether the part at a place can keep the value from a rival, and no place that is as good comes ahead. */
        private boolean helps(int s, int i, int touched) {
            int item = book.below(s, i);
            boolean isSpare = twins[i] >= 0 && (touched >> i & 1) == 0 && (touched >> twins[i] & 1) == 0;
            return costs[i] > 0 && item >= 0 && !isSpare && !Cone.holds(wants[i] | barred[i], item);
        }

        /** Bars a way from now on, and those that are as good. */
        private void bar(int s, int place, int touched) {
            int those = 1 << place;
            barred[place] |= Cone.bit(book.below(s, place));
            for (int i = place + 1; i < MOST_PARTS && (touched >> place & 1) == 0; i++) {
                if (twins[i] >= 0 && (those >> twins[i] & 1) == 1 && (touched >> i & 1) == 0) {
                    those |= 1 << i;
                    barred[i] |= Cone.bit(book.below(s, i));
                }
            }
        }

        /** The smallest size known of a value of all these and of none of those, as far as it is below the limit. */
        private int cost(long must, long mustNot, int limit) {
            left--;
            if (logic.hasSingle(must, mustNot)) {
                return 1;
            }
            logic.yes = must;
            logic.no = mustNot;
            if (limit <= Needs.LEAST_DEEP || !logic.ease(logic.nevers[Logic.EITHER], logic.alwayses[Logic.EITHER])) {
                return Needs.ENDLESS;
            }
            boolean noList = ((logic.yes & logic.nevers[Logic.LISTS]) | (logic.no & logic.alwayses[Logic.LISTS])) != 0;
            boolean noRecord = ((logic.yes & logic.nevers[Logic.RECORDS]) | (logic.no & logic.alwayses[Logic.RECORDS])) != 0;
            int kind = noList ? Logic.RECORDS : noRecord ? Logic.LISTS : Logic.EITHER;
            logic.no |= (noList ? Logic.LIST : 0) | (noRecord ? Logic.RECORD : 0);
            if (!logic.ease(logic.nevers[kind], logic.alwayses[kind])) {
                return Needs.ENDLESS;
            }
            long followsYes = logic.yes;
            long followsNo = logic.no;
            logic.trim(kind);
            return needs.sizeAt(needs.placeOf(logic.yes, logic.no, followsYes, followsNo), limit);
        }
    }

    /** Makes values from others (views by the steps of the lens, what is put back, what is merged), and schemas from samples. */
    private static final class Makers {
        private static final int LEVELS = MOST_DEPTH + 2;
        private static final int KINDS = 6;

        private final Values pool;
        private final Schemas book;
        private final char[] kinds = new char[MOST_STEPS];
        private final int[] firsts = new int[MOST_STEPS];
        private final int[] seconds = new int[MOST_STEPS];
        private final int[] trail = new int[MOST_STEPS + 1];
        private final int[] alone = {NONE, NONE, NONE, NONE};
        /** What is merged of the parts, for each depth. */
        private final int[] rows = new int[(MOST_DEPTH + 1) * MOST_PARTS];
        int stepCount;
        int clashes;
        /** For each level below the samples: the values there, the schemas for labels, and those for kinds. */
        private final int[] marks = new int[LEVELS * MOST_VALUES];
        private final int[] items = new int[LEVELS * LABELS];
        private final int[] found = new int[LEVELS * KINDS];

        Makers(Values pool, Schemas book) {
            this.pool = pool;
            this.book = book;
        }

        /** Whether there is such a step, its label a being one. */
        static boolean takes(char kind, int a, int b) {
            switch (kind) {
                case 'r':
                case 'n':
                    return isLabel(b) && a != b;
                case 's':
                    return b >= 0 && b <= 9;
                case 'a':
                case 'd':
                case 'w':
                    return true;
                default:
                    return false;
            }
        }

        /** The number of steps with this one, or -1 if there is no room. */
        int add(char kind, int a, int b) {
            if (stepCount >= MOST_STEPS) {
                return NONE;
            }
            kinds[stepCount] = kind;
            firsts[stepCount] = a;
            seconds[stepCount] = b;
            stepCount++;
            return stepCount;
        }

        /** The view, or -1 if a step does not fit. */
        int viewOf(int record) {
            trail[0] = pool.isRecord(record) ? record : NONE;
            for (int i = 0; i < stepCount; i++) {
                trail[i + 1] = pool.isRecord(trail[i]) ? done(i, trail[i]) : NONE;
            }
            return trail[stepCount];
        }

        /** The record that has this view, or -1 if a step does not fit, after a view was got from the old one. */
        int putBack(int view) {
            int now = view;
            for (int i = stepCount - 1; i >= 0; i--) {
                now = pool.isRecord(now) ? undone(i, now) : NONE;
            }
            return pool.isRecord(now) ? now : NONE;
        }

        private int done(int step, int record) {
            int a = firsts[step];
            int b = seconds[step];
            int there = pool.at(record, a);
            switch (kinds[step]) {
                case 'r':
                    return renamed(record, a, b);
                case 'd':
                    return pool.labelled(record, a, NONE);
                case 'a':
                    return there >= 0 ? NONE : pool.labelled(record, a, b);
                case 'n':
                    return putIn(record, a, b);
                case 'w':
                    return there < 0 ? record : pool.labelled(record, a, listOf(there));
                default:
                    return swapped(record, a, b);
            }
        }

        private int undone(int step, int record) {
            int a = firsts[step];
            int b = seconds[step];
            int there = pool.at(record, a);
            switch (kinds[step]) {
                case 'r':
                    return renamed(record, b, a);
                case 'd':
                    return there >= 0 ? NONE : pool.labelled(record, a, pool.at(trail[step], a));
                case 'a':
                    return there == b ? pool.labelled(record, a, NONE) : NONE;
                case 'n':
                    return takenOut(record, a, b);
                case 'w':
                    return there < 0 ? record : unlisted(record, a, there);
                default:
                    return swapped(record, a, b);
            }
        }

        private int renamed(int record, int from, int to) {
            if (pool.at(record, to) >= 0) {
                return NONE;
            }
            int there = pool.at(record, from);
            return there < 0 ? record : pool.labelled(pool.labelled(record, from, NONE), to, there);
        }

        private int putIn(int record, int a, int b) {
            int inner = pool.at(record, b);
            if (!pool.isRecord(inner) || pool.at(inner, a) >= 0) {
                return NONE;
            }
            int there = pool.at(record, a);
            if (there < 0) {
                return record;
            }
            int fuller = pool.labelled(inner, a, there);
            return fuller < 0 ? NONE : pool.labelled(pool.labelled(record, a, NONE), b, fuller);
        }

        private int takenOut(int record, int a, int b) {
            int inner = pool.at(record, b);
            if (!pool.isRecord(inner) || pool.at(record, a) >= 0) {
                return NONE;
            }
            int there = pool.at(inner, a);
            if (there < 0) {
                return record;
            }
            int emptier = pool.labelled(inner, a, NONE);
            return pool.labelled(pool.labelled(record, b, emptier), a, there);
        }

        /** A list of one part, or -1 if that is too deep. */
        private int listOf(int part) {
            alone[0] = part;
            return pool.draft('l', 1, alone, 0);
        }

        private int unlisted(int record, int label, int there) {
            boolean fits = pool.isList(there) && pool.numbers[there] == 1;
            return fits ? pool.labelled(record, label, pool.at(there, 0)) : NONE;
        }

        private int swapped(int record, int label, int symbol) {
            int there = pool.at(record, label);
            if (there < 0 || pool.kinds[there] != 's') {
                return record;
            }
            int before = pool.numbers[there];
            if (before != symbol && before != 9 - symbol) {
                return record;
            }
            alone[0] = NONE;
            return pool.labelled(record, label, pool.draft('s', 9 - before, alone, 0));
        }

        /** What is merged of two values that came from a first one. */
        int merged(int first, int one, int other) {
            clashes = 0;
            return mergedAt(first, one, other, 0);
        }

        /** What is merged, where -1 is nothing there. */
        private int mergedAt(int first, int one, int other, int depth) {
            if (one == other || first == other) {
                return one;
            }
            if (first == one) {
                return other;
            }
            boolean records = pool.isRecord(first) && pool.isRecord(one) && pool.isRecord(other);
            if (depth > MOST_DEPTH || !(records || areListsOfOneLength(first, one, other))) {
                clashes++;
                return one;
            }
            int from = depth * MOST_PARTS;
            for (int i = 0; i < MOST_PARTS; i++) {
                rows[from + i] = mergedAt(pool.at(first, i), pool.at(one, i), pool.at(other, i), depth + 1);
            }
            char kind = records ? 'o' : 'l';
            return pool.draft(kind, records ? Values.labelBits(rows, from) : pool.numbers[first], rows, from);
        }

        private boolean areListsOfOneLength(int first, int one, int other) {
            return pool.isList(first) && pool.isList(one) && pool.isList(other)
                    && pool.numbers[first] == pool.numbers[one] && pool.numbers[first] == pool.numbers[other];
        }

        /** The schema for the samples, or -1, and nothing made, if there would be too many. */
        int found(int[] samples, int count) {
            int before = book.count;
            Arrays.fill(marks, 0, MOST_VALUES, 0);
            for (int i = 0; i < count && i < samples.length; i++) {
                mark(0, samples[i]);
            }
            int made = foundAt(0);
            if (made < 0) {
                book.cut(before);
            }
            return made;
        }

        private void mark(int level, int value) {
            if (level >= 0 && level < LEVELS && pool.has(value)) {
                marks[level * MOST_VALUES + value] = 1;
            }
        }

        private boolean isMarked(int level, int value, char kind) {
            return marks[level * MOST_VALUES + value] == 1 && pool.kinds[value] == kind;
        }

        private void clearLevel(int level) {
            Arrays.fill(marks, level * MOST_VALUES, (level + 1) * MOST_VALUES, 0);
        }

        private int foundAt(int level) {
            if (level + 1 >= LEVELS) {
                return NONE;
            }
            int made = 0;
            for (int i = 0; i < KINDS; i++) {
                char kind = kindAt(i);
                if (howMany(level, kind) > 0) {
                    int schema = foundFor(level, kind);
                    if (schema < 0) {
                        return NONE;
                    }
                    found[level * KINDS + made] = schema;
                    made++;
                }
            }
            return made == 0 ? book.add('0', 0, 0, 0) : joinedUp(level, made);
        }

        private static char kindAt(int index) {
            switch (index) {
                case 0:
                    return 'z';
                case 1:
                    return 'b';
                case 2:
                    return 'n';
                case 3:
                    return 's';
                case 4:
                    return 'l';
                default:
                    return 'o';
            }
        }

        private int howMany(int level, char kind) {
            int those = 0;
            for (int v = 0; v < pool.count; v++) {
                those += isMarked(level, v, kind) ? 1 : 0;
            }
            return those;
        }

        private int joinedUp(int level, int made) {
            int all = found[level * KINDS];
            for (int i = 1; i < made && all >= 0; i++) {
                all = book.add('u', all, found[level * KINDS + i], 0);
            }
            return all;
        }

        private int foundFor(int level, char kind) {
            switch (kind) {
                case 'n':
                    return book.add('n', lowest(level, kind), greatest(level, kind), 0);
                case 's':
                    return book.add('s', symbolBits(level), 0, 0);
                case 'l':
                    return listSchema(level);
                case 'o':
                    return recordSchema(level);
                default:
                    return book.add(kind, 0, 0, 0);
            }
        }

        private int lowest(int level, char kind) {
            int least = Integer.MAX_VALUE;
            for (int v = 0; v < pool.count; v++) {
                least = isMarked(level, v, kind) ? Math.min(least, pool.numbers[v]) : least;
            }
            return least;
        }

        private int greatest(int level, char kind) {
            int greatest = Integer.MIN_VALUE;
            for (int v = 0; v < pool.count; v++) {
                greatest = isMarked(level, v, kind) ? Math.max(greatest, pool.numbers[v]) : greatest;
            }
            return greatest;
        }

        private int symbolBits(int level) {
            int bits = 0;
            for (int v = 0; v < pool.count; v++) {
                bits |= isMarked(level, v, 's') ? 1 << pool.numbers[v] : 0;
            }
            return bits;
        }

        private int listSchema(int level) {
            clearLevel(level + 1);
            for (int v = 0; v < pool.count; v++) {
                for (int i = 0; i < MOST_PARTS && isMarked(level, v, 'l'); i++) {
                    mark(level + 1, pool.at(v, i));
                }
            }
            int least = lowest(level, 'l');
            int greatest = greatest(level, 'l');
            int item = foundAt(level + 1);
            return item < 0 ? NONE : book.add('l', item, least, greatest);
        }

        private int recordSchema(int level) {
            int all = howMany(level, 'o');
            int musts = 0;
            for (int label = 0; label < LABELS; label++) {
                int there = markAt(level, label);
                int item = there == 0 ? NONE : foundAt(level + 1);
                if (there > 0 && item < 0) {
                    return NONE;
                }
                items[level * LABELS + label] = item;
                musts |= there == all ? 1 << label : 0;
            }
            int made = book.add('o', 1, 0, 0);
            for (int label = 0; label < LABELS && made >= 0; label++) {
                int item = items[level * LABELS + label];
                if (item >= 0) {
                    book.tell(made, label, item, (musts >> label & 1) == 1);
                }
            }
            return made;
        }

        /** Marks what is at a label of the marked records, a level below; returns how many have it. */
        private int markAt(int level, int label) {
            clearLevel(level + 1);
            int there = 0;
            for (int v = 0; v < pool.count; v++) {
                if (isMarked(level, v, 'o') && pool.at(v, label) >= 0) {
                    mark(level + 1, pool.at(v, label));
                    there++;
                }
            }
            return there;
        }
    }
}
