import java.util.Arrays;
import java.util.NoSuchElementException;

/** A language of schemas for values that nest; ../shared/DOC.md tells what each call promises. */
public final class Formwarden {
    private static final int LABELS = 4;
    private static final int MOST_PARTS = 4;
    private static final int MOST_DEPTH = 6;
    private static final int MOST_VALUES = 200;
    private static final int MOST_SCHEMAS = 50;
    private static final int MOST_STEPS = 8;
    private static final int MOST_SAMPLES = 8;
    private static final int MOST_SIZE = 1000;
    private static final int NAMES = 6;
    private static final int ALL_PLACES = 15;
    private static final int NONE = -1;

    private final Values pool = new Values();
    private final Schemas book = new Schemas();
    private final Members members = new Members(pool, book);
    private final Faults lacks = new Faults(pool, book);
    private final Schemas toldBook = new Schemas();
    private final Faults told = new Faults(pool, toldBook);
    private final Search search = new Search(book);
    private final Lens lens = new Lens(pool);
    private final Merger merger = new Merger(pool);
    private final Finder finder = new Finder(pool, book);
    private final int[] samples = new int[MOST_SAMPLES];
    private final int[] row = new int[MOST_PARTS];
    private int sampleCount;
    private int clashes;

    public Formwarden() {
    }

    // ---- values

    public int value(char kind, int number) throws IllegalArgumentException, IllegalStateException {
        if (!isLeaf(kind, number)) {
            throw new IllegalArgumentException("no such kind, or the number is out of range");
        }
        clearRow();
        pool.dropDrafts();
        return kept(pool.draft(kind, kind == 'z' ? 0 : number, row, 0));
    }

    public int list(int first, int second, int third, int fourth)
            throws IndexOutOfBoundsException, IllegalArgumentException, UnsupportedOperationException,
            IllegalStateException {
        if (!isPart(first) || !isPart(second) || !isPart(third) || !isPart(fourth)) {
            throw new IndexOutOfBoundsException("no such value");
        }
        row[0] = first;
        row[1] = second;
        row[2] = third;
        row[3] = fourth;
        int length = rowLength();
        if (length < 0) {
            throw new IllegalArgumentException("-1 is told ahead of a part");
        }
        pool.dropDrafts();
        int made = pool.draft('l', length, row, 0);
        if (made < 0) {
            throw new UnsupportedOperationException("the list would be too deep");
        }
        return kept(made);
    }

    public int record() throws IllegalStateException {
        clearRow();
        pool.dropDrafts();
        return kept(pool.draft('o', 0, row, 0));
    }

    public int with(int record, int label, int value)
            throws IndexOutOfBoundsException, IllegalArgumentException, UnsupportedOperationException,
            IllegalStateException {
        if (!pool.has(record) || !isPart(value) || !isLabel(label)) {
            throw new IndexOutOfBoundsException("no such value or label");
        }
        if (!pool.isRecord(record)) {
            throw new IllegalArgumentException("it is no record");
        }
        pool.dropDrafts();
        int made = pool.labelled(record, label, value);
        if (made < 0) {
            throw new UnsupportedOperationException("the record would be too deep");
        }
        return kept(made);
    }

    public int values() {
        return pool.count;
    }

    public char kindOf(int value) throws IndexOutOfBoundsException {
        needValue(value);
        return pool.kinds[value];
    }

    public int numberOf(int value) throws IndexOutOfBoundsException {
        needValue(value);
        return pool.numbers[value];
    }

    public int part(int value, int index) throws IndexOutOfBoundsException, NoSuchElementException {
        needValue(value);
        int found = pool.at(value, index);
        if (found < 0) {
            throw new NoSuchElementException("it has no such part");
        }
        return found;
    }

    public int size(int value) throws IndexOutOfBoundsException {
        needValue(value);
        return pool.sizes[value];
    }

    // ---- schemas

    public int schema(char kind, int a, int b, int c)
            throws IllegalArgumentException, IndexOutOfBoundsException, IllegalStateException {
        if (!Schemas.isKind(kind) || !Schemas.isInRange(kind, a, b, c)) {
            throw new IllegalArgumentException("no such kind, or a number is out of range");
        }
        if (!book.hasParts(kind, a, b)) {
            throw new IndexOutOfBoundsException("no such schema as a part");
        }
        int made = book.add(kind, a, b, c);
        if (made < 0) {
            throw new IllegalStateException("there are 50 schemas");
        }
        return made;
    }

    public boolean field(int schema, int label, int item, boolean must)
            throws IndexOutOfBoundsException, IllegalArgumentException {
        if (!book.has(schema) || !isLabel(label) || (item != NONE && !book.has(item))) {
            throw new IndexOutOfBoundsException("no such schema or label");
        }
        if (book.kinds[schema] != 'o' || item >= schema) {
            throw new IllegalArgumentException("it is no record schema, or the schema has no lower number");
        }
        return book.tell(schema, label, item, must) >= 0;
    }

    public int bind(int name, int schema) throws IndexOutOfBoundsException, UnsupportedOperationException {
        if (name < 0 || name >= NAMES || !book.has(schema)) {
            throw new IndexOutOfBoundsException("no such name or schema");
        }
        if (book.leadsTo(schema, name)) {
            throw new UnsupportedOperationException("the name would come back to itself");
        }
        return book.rebind(name, schema);
    }

    public int schemas() {
        return book.count;
    }

    public boolean isOf(int value, int schema) throws IndexOutOfBoundsException {
        needValue(value);
        needSchema(schema);
        return members.belongs(value, schema);
    }

    public int faults(int value, int schema) throws IndexOutOfBoundsException {
        needValue(value);
        needSchema(schema);
        toldBook.become(book);
        told.remember(value, schema);
        return told.remembered;
    }

    public char faultAt(int index) throws IndexOutOfBoundsException {
        seekFault(index);
        return told.letter;
    }

    public int pathAt(int index) throws IndexOutOfBoundsException {
        seekFault(index);
        return told.path;
    }

    public boolean isEmpty(int schema) throws IndexOutOfBoundsException {
        needSchema(schema);
        return search.smallest(schema, NONE) == 0;
    }

    public boolean isWithin(int schema, int other) throws IndexOutOfBoundsException {
        needSchema(schema);
        needSchema(other);
        return search.smallest(schema, other) == 0;
    }

    public int gap(int schema, int other) throws IndexOutOfBoundsException, NoSuchElementException {
        needSchema(schema);
        needSchema(other);
        int found = search.smallest(schema, other);
        if (found == 0) {
            throw new NoSuchElementException("the schema is within the other one");
        }
        return found;
    }

    public int least(int schema) throws IndexOutOfBoundsException, NoSuchElementException {
        needSchema(schema);
        int found = search.smallest(schema, NONE);
        if (found == 0) {
            throw new NoSuchElementException("the schema has no values");
        }
        return found;
    }

    // ---- views, merging, samples

    public int step(char kind, int a, int b)
            throws IllegalArgumentException, IndexOutOfBoundsException, IllegalStateException {
        if (!isLabel(a) || !Lens.takes(kind, a, b)) {
            throw new IllegalArgumentException("no such kind, label or symbol, or both labels are the same");
        }
        if (kind == 'a') {
            needValue(b);
        }
        int steps = lens.add(kind, a, b);
        if (steps < 0) {
            throw new IllegalStateException("there are 8 steps");
        }
        return steps;
    }

    public int clearSteps() {
        int before = lens.count;
        lens.count = 0;
        return before;
    }

    public int get(int record)
            throws IndexOutOfBoundsException, UnsupportedOperationException, IllegalStateException {
        needValue(record);
        pool.dropDrafts();
        int made = lens.viewOf(record);
        if (made < 0) {
            throw new UnsupportedOperationException("it is no record, a step does not fit, or it is too deep");
        }
        return kept(made);
    }

    public int put(int record, int view)
            throws IndexOutOfBoundsException, UnsupportedOperationException, IllegalStateException {
        needValue(record);
        needValue(view);
        pool.dropDrafts();
        int made = lens.viewOf(record) < 0 ? NONE : lens.putBack(view);
        if (made < 0) {
            throw new UnsupportedOperationException("one is no record, a step does not fit, or it is too deep");
        }
        return kept(made);
    }

    public int merge(int first, int one, int other) throws IndexOutOfBoundsException, IllegalStateException {
        needValue(first);
        needValue(one);
        needValue(other);
        pool.dropDrafts();
        int kept = kept(merger.merged(first, one, other));
        clashes = merger.clashes;
        return kept;
    }

    public int conflicts() {
        return clashes;
    }

    public int sample(int value) throws IndexOutOfBoundsException, IllegalStateException {
        needValue(value);
        if (sampleCount >= MOST_SAMPLES) {
            throw new IllegalStateException("there are 8 samples");
        }
        samples[sampleCount] = value;
        sampleCount++;
        return sampleCount;
    }

    public int clearSamples() {
        int before = sampleCount;
        sampleCount = 0;
        return before;
    }

    public int infer() throws IllegalStateException {
        int found = finder.found(samples, sampleCount);
        if (found < 0) {
            throw new IllegalStateException("there would be more than 50 schemas");
        }
        return found;
    }

    public boolean fits(int schema) throws IndexOutOfBoundsException {
        needSchema(schema);
        for (int i = 0; i < sampleCount; i++) {
            if (!members.belongs(samples[i], schema)) {
                return false;
            }
        }
        return true;
    }

    public long gaps(int schema) throws IndexOutOfBoundsException {
        needSchema(schema);
        long sum = 0;
        for (int other = 0; other < book.count; other++) {
            sum += search.smallest(schema, other);
        }
        return sum;
    }

    public float share(int schema) throws IndexOutOfBoundsException, ArithmeticException {
        needSchema(schema);
        if (pool.count == 0) {
            throw new ArithmeticException("there are no values");
        }
        int those = 0;
        for (int v = 0; v < pool.count; v++) {
            if (members.belongs(v, schema)) {
                those++;
            }
        }
        return (float) those / (float) pool.count;
    }

    public double meanSize() throws ArithmeticException {
        if (pool.count == 0) {
            throw new ArithmeticException("there are no values");
        }
        int sum = 0;
        for (int v = 0; v < pool.count; v++) {
            sum += pool.sizes[v];
        }
        return (double) sum / (double) pool.count;
    }

    public boolean isBorneOut(int schema, int other) throws IndexOutOfBoundsException {
        needSchema(schema);
        needSchema(other);
        int there = search.smallest(schema, other);
        int back = search.smallest(other, schema);
        for (int v = 0; v < pool.count; v++) {
            if (!bearsOut(v, schema, other, there) || !bearsOut(v, other, schema, back)) {
                return false;
            }
        }
        return true;
    }

    /** Whether a value is as told of a schema and of its gap to another one, 0 if it is within. */
    private boolean bearsOut(int value, int schema, int other, int gapSize) {
        boolean belongs = members.belongs(value, schema);
        if (belongs != (lacks.howMany(value, schema) == 0)) {
            return false;
        }
        return !belongs || members.belongs(value, other) || (gapSize > 0 && gapSize <= pool.sizes[value]);
    }

    private void needValue(int value) {
        if (!pool.has(value)) {
            throw new IndexOutOfBoundsException("no such value");
        }
    }

    private void needSchema(int schema) {
        if (!book.has(schema)) {
            throw new IndexOutOfBoundsException("no such schema");
        }
    }

    private void seekFault(int index) {
        if (index < 0 || index >= told.remembered) {
            throw new IndexOutOfBoundsException("no such fault");
        }
        told.seek(index);
    }

    /** Keeps what was made; nothing is made if there is no room. */
    private int kept(int made) {
        int kept = pool.keep(made);
        if (kept < 0) {
            throw new IllegalStateException("there are 200 values");
        }
        return kept;
    }

    private boolean isPart(int value) {
        return value == NONE || pool.has(value);
    }

    private static boolean isLabel(int label) {
        return label >= 0 && label < LABELS;
    }

    private static boolean isLeaf(char kind, int number) {
        switch (kind) {
            case 'z':
                return true;
            case 'b':
                return number >= 0 && number <= 1;
            case 'n':
                return number >= -99 && number <= 99;
            case 's':
                return number >= 0 && number <= 9;
            default:
                return false;
        }
    }

    private void clearRow() {
        Arrays.fill(row, NONE);
    }

    /** The number of parts told in the row, or -1 if one stands behind a gap. */
    private int rowLength() {
        int length = 0;
        for (int i = 0; i < MOST_PARTS; i++) {
            if (row[i] >= 0) {
                if (length < i) {
                    return NONE;
                }
                length++;
            }
        }
        return length;
    }

    /**
     * The values, and drafts of values behind them: a call that may fail late works on drafts,
     * and keeps those that its answer has only when nothing can go wrong any more.
     */
    private static final class Values {
        private static final int DRAFTS = 400;
        private static final int ROOM = MOST_VALUES + DRAFTS;

        final char[] kinds = new char[ROOM];
        final int[] numbers = new int[ROOM];
        final int[] sizes = new int[ROOM];
        private final int[] parts = new int[MOST_PARTS * ROOM];
        private final int[] depths = new int[ROOM];
        private final int[] places = new int[ROOM];
        private final int[] fresh = new int[DRAFTS];
        private final int[] work = new int[MOST_PARTS];
        int count;
        private int drafts;
        private int freshCount;

        boolean has(int value) {
            return value >= 0 && value < count;
        }

        private boolean stands(int value) {
            return value >= 0 && (value < count || (value >= MOST_VALUES && value < MOST_VALUES + drafts));
        }

        boolean isRecord(int value) {
            return stands(value) && kinds[value] == 'o';
        }

        boolean isList(int value) {
            return stands(value) && kinds[value] == 'l';
        }

        /** The part at a place or label, or -1. */
        int at(int value, int index) {
            if (value < 0 || value >= ROOM || index < 0 || index >= MOST_PARTS) {
                return NONE;
            }
            return parts[value * MOST_PARTS + index];
        }

        void dropDrafts() {
            drafts = 0;
        }

        /** The value with these parts, kept or drafted, or -1 if it would be too deep. */
        int draft(char kind, int number, int[] row, int from) {
            if (from < 0 || from + MOST_PARTS > row.length) {
                return NONE;
            }
            int depth = 1;
            int size = 1;
            for (int i = 0; i < MOST_PARTS; i++) {
                int part = row[from + i];
                if (stands(part)) {
                    depth = Math.max(depth, depths[part] + 1);
                    size += sizes[part];
                }
            }
            if (depth > MOST_DEPTH) {
                return NONE;
            }
            int same = findSame(kind, number, row, from);
            if (same >= 0) {
                return same;
            }
            if (drafts >= DRAFTS) {
                return NONE;
            }
            int made = MOST_VALUES + drafts;
            drafts++;
            fill(made, kind, number, depth, size);
            System.arraycopy(row, from, parts, made * MOST_PARTS, MOST_PARTS);
            places[made] = NONE;
            return made;
        }

        private void fill(int value, char kind, int number, int depth, int size) {
            kinds[value] = kind;
            numbers[value] = number;
            depths[value] = depth;
            sizes[value] = size;
        }

        private int findSame(char kind, int number, int[] row, int from) {
            for (int v = 0; v < MOST_VALUES + drafts; v++) {
                int place = v * MOST_PARTS;
                boolean kept = v < count || v >= MOST_VALUES;
                if (kept && kinds[v] == kind && numbers[v] == number
                        && parts[place] == row[from] && parts[place + 1] == row[from + 1]
                        && parts[place + 2] == row[from + 2] && parts[place + 3] == row[from + 3]) {
                    return v;
                }
            }
            return NONE;
        }

        /** What the record becomes with a value, or -1 for none, at a label; -1 if that is too deep. */
        int labelled(int record, int label, int value) {
            if (!isRecord(record) || label < 0 || label >= LABELS) {
                return NONE;
            }
            System.arraycopy(parts, record * MOST_PARTS, work, 0, MOST_PARTS);
            work[label] = value;
            return draft('o', labelBits(work, 0), work, 0);
        }

        static int labelBits(int[] row, int from) {
            int bits = 0;
            for (int i = 0; i < LABELS; i++) {
                if (row[from + i] >= 0) {
                    bits |= 1 << i;
                }
            }
            return bits;
        }

        /** Numbers a draft and its drafted parts, the parts first; -1, and nothing done, if there is no room. */
        int keep(int value) {
            if (!stands(value)) {
                return NONE;
            }
            if (value < MOST_VALUES) {
                return value;
            }
            freshCount = 0;
            place(value, 1);
            if (count + freshCount > MOST_VALUES) {
                return NONE;
            }
            for (int i = 0; i < freshCount; i++) {
                move(fresh[i]);
            }
            return places[value];
        }

        private void place(int value, int depth) {
            if (value < MOST_VALUES || places[value] >= 0 || depth > MOST_DEPTH || freshCount >= DRAFTS) {
                return;
            }
            for (int i = 0; i < MOST_PARTS; i++) {
                place(parts[value * MOST_PARTS + i], depth + 1);
            }
            places[value] = count + freshCount;
            fresh[freshCount] = value;
            freshCount++;
        }

        private void move(int value) {
            int place = count;
            fill(place, kinds[value], numbers[value], depths[value], sizes[value]);
            for (int i = 0; i < MOST_PARTS; i++) {
                int part = parts[value * MOST_PARTS + i];
                parts[place * MOST_PARTS + i] = part >= MOST_VALUES ? places[part] : part;
            }
            count++;
        }
    }

    /** The schemas and what the names are bound to. */
    private static final class Schemas {
        final char[] kinds = new char[MOST_SCHEMAS];
        final int[] firsts = new int[MOST_SCHEMAS];
        final int[] seconds = new int[MOST_SCHEMAS];
        final int[] thirds = new int[MOST_SCHEMAS];
        private final int[] items = new int[MOST_SCHEMAS * LABELS];
        /** The labels, as bits, that must be there, and those that are told. */
        private final int[] musts = new int[MOST_SCHEMAS];
        private final int[] told = new int[MOST_SCHEMAS];
        private final int[] bound = {NONE, NONE, NONE, NONE, NONE, NONE};
        /** Each schema behind all that it is joined from without a list or record between. */
        final int[] order = new int[MOST_SCHEMAS];
        int count;
        /** Grows when a schema comes to mean something else, so that what was worked out can be thrown away. */
        int edition;
        /** The schemas that are seen to have no values, and all values, from how they are written alone. */
        long never;
        long always;
        private int foldedEdition = NONE;
        private int foldedCount;

        boolean has(int schema) {
            return schema >= 0 && schema < count;
        }

        static boolean isKind(char kind) {
            switch (kind) {
                case 'a':
                case '0':
                case 'z':
                case 'b':
                case 'n':
                case 's':
                case 'l':
                case 'o':
                case 'u':
                case '&':
                case '!':
                case 'r':
                    return true;
                default:
                    return false;
            }
        }

        static boolean isInRange(char kind, int a, int b, int c) {
            switch (kind) {
                case 'n':
                    return a >= -99 && a <= b && b <= 99;
                case 's':
                    return a >= 0 && a <= 1023;
                case 'l':
                    return b >= 0 && b <= c && c <= MOST_PARTS;
                case 'o':
                    return a == 0 || a == 1;
                case 'r':
                    return a >= 0 && a < NAMES;
                default:
                    return true;
            }
        }

        boolean hasParts(char kind, int a, int b) {
            switch (kind) {
                case 'u':
                case '&':
                    return has(a) && has(b);
                case '!':
                case 'l':
                    return has(a);
                default:
                    return true;
            }
        }

        /** The new schema, or -1 if there is no room. */
        int add(char kind, int a, int b, int c) {
            if (count >= MOST_SCHEMAS) {
                return NONE;
            }
            int made = count;
            kinds[made] = kind;
            firsts[made] = a;
            seconds[made] = b;
            thirds[made] = c;
            for (int label = 0; label < LABELS; label++) {
                items[made * LABELS + label] = NONE;
            }
            musts[made] = 0;
            told[made] = 0;
            order[made] = made;
            count++;
            return made;
        }

        /** Tells a label, and returns what was told before, or -1. */
        int tell(int schema, int label, int item, boolean must) {
            int place = schema * LABELS + label;
            int before = items[place];
            items[place] = item;
            int bit = 1 << label;
            musts[schema] = must && item >= 0 ? musts[schema] | bit : musts[schema] & ~bit;
            told[schema] = item >= 0 ? told[schema] | bit : told[schema] & ~bit;
            edition++;
            return before;
        }

        /** The schema told for a label, or -1. */
        int itemAt(int schema, int label) {
            if (schema < 0 || schema >= count || label < 0 || label >= LABELS) {
                return NONE;
            }
            return items[schema * LABELS + label];
        }

        boolean mustHave(int schema, int label) {
            return schema >= 0 && schema < count && label >= 0 && label < LABELS
                    && (musts[schema] >> label & 1) == 1;
        }

        /** The schema for the part at a place of a list or at a label, or -1. */
        int below(int schema, int index) {
            if (kinds[schema] == 'l') {
                return firsts[schema];
            }
            return index < 0 || index >= LABELS ? NONE : items[schema * LABELS + index];
        }

        /** The places of a list or the labels, as bits, at which something must be. */
        int needed(int schema) {
            return kinds[schema] == 'l' ? (1 << seconds[schema]) - 1 : musts[schema];
        }

        /** The places of a list or the labels, as bits, at which nothing must be. */
        int barred(int schema) {
            if (kinds[schema] == 'l') {
                return ALL_PLACES & -(1 << thirds[schema]);
            }
            return firsts[schema] == 1 ? ALL_PLACES & ~told[schema] : 0;
        }

        boolean isClosed(int schema) {
            return schema >= 0 && schema < count && firsts[schema] == 1;
        }

        /** The schema to which the name of an 'r' is bound, or -1. */
        int target(int schema) {
            if (schema < 0 || schema >= count || firsts[schema] < 0 || firsts[schema] >= NAMES) {
                return NONE;
            }
            return bound[firsts[schema]];
        }

        int rebind(int name, int schema) {
            int before = bound[name];
            bound[name] = schema;
            edition++;
            arrange();
            return before;
        }

        /** Whether a name is met from the schema by joins and names alone. */
        boolean leadsTo(int schema, int name) {
            long met = 1L << schema;
            long before = 0;
            for (int pass = 0; pass < MOST_SCHEMAS && met != before; pass++) {
                before = met;
                for (int s = 0; s < count; s++) {
                    if ((met >> s & 1) == 1) {
                        met |= joined(s);
                    }
                }
            }
            for (int s = 0; s < count; s++) {
                if ((met >> s & 1) == 1 && kinds[s] == 'r' && firsts[s] == name) {
                    return true;
                }
            }
            return false;
        }

        /** The bits of the schemas that tell of the same value as this one. */
        long joined(int schema) {
            switch (kinds[schema]) {
                case 'u':
                case '&':
                    return 1L << firsts[schema] | 1L << seconds[schema];
                case '!':
                    return 1L << firsts[schema];
                case 'r':
                    return target(schema) < 0 ? 0 : 1L << target(schema);
                default:
                    return 0;
            }
        }

        /** The bits of the schemas that tell of the parts of a value of this one. */
        long nested(int schema) {
            if (kinds[schema] == 'l') {
                return 1L << firsts[schema];
            }
            long bits = 0;
            if (kinds[schema] == 'o') {
                for (int label = 0; label < LABELS; label++) {
                    int item = itemAt(schema, label);
                    bits |= item < 0 ? 0 : 1L << item;
                }
            }
            return bits;
        }

        /** Finds the schemas that are always or never met. */
        void fold() {
            if (foldedEdition == edition && foldedCount == count) {
                return;
            }
            foldedEdition = edition;
            foldedCount = count;
            never = 0;
            always = 0;
            boolean grown = true;
            for (int pass = 0; pass <= MOST_SCHEMAS && grown; pass++) {
                long before = never | always;
                for (int s = 0; s < count; s++) {
                    never |= isNever(s) ? 1L << s : 0;
                    always |= isAlways(s) ? 1L << s : 0;
                }
                grown = (never | always) != before;
            }
        }

        private boolean isNever(int s) {
            int a = firsts[s];
            switch (kinds[s]) {
                case '0':
                    return true;
                case 's':
                    return a == 0;
                case 'l':
                    return seconds[s] > 0 && isIn(never, a);
                case 'o':
                    return mustHaveNever(s);
                case 'u':
                    return isIn(never, a) && isIn(never, seconds[s]);
                case '&':
                    return isIn(never, a) || isIn(never, seconds[s]) || areOpposed(a, seconds[s]);
                case '!':
                    return isIn(always, a);
                case 'r':
                    return target(s) < 0 || isIn(never, target(s));
                default:
                    return false;
            }
        }

        private boolean isAlways(int s) {
            int a = firsts[s];
            switch (kinds[s]) {
                case 'a':
                    return true;
                case 'u':
                    return isIn(always, a) || isIn(always, seconds[s]) || areOpposed(a, seconds[s]);
                case '&':
                    return isIn(always, a) && isIn(always, seconds[s]);
                case '!':
                    return isIn(never, a);
                case 'r':
                    return isIn(always, target(s));
                default:
                    return false;
            }
        }

        private boolean mustHaveNever(int s) {
            for (int label = 0; label < LABELS; label++) {
                if (mustHave(s, label) && isIn(never, itemAt(s, label))) {
                    return true;
                }
            }
            return false;
        }

        private boolean areOpposed(int a, int b) {
            return (kinds[a] == '!' && firsts[a] == b) || (kinds[b] == '!' && firsts[b] == a);
        }

        private static boolean isIn(long bits, int schema) {
            return schema >= 0 && (bits >> schema & 1) == 1;
        }

        private void arrange() {
            long placed = 0;
            int next = 0;
            for (int pass = 0; pass < MOST_SCHEMAS && next < count; pass++) {
                for (int s = 0; s < count && next < count; s++) {
                    if ((placed >> s & 1) == 0 && (joined(s) & ~placed) == 0) {
                        placed |= 1L << s;
                        order[next] = s;
                        next++;
                    }
                }
            }
        }

        /** Whether the numbers or symbols of a leaf's schema have this one. */
        boolean takesNumber(int schema, int number) {
            switch (kinds[schema]) {
                case 'n':
                    return number >= firsts[schema] && number <= seconds[schema];
                case 's':
                    return number >= 0 && number <= 9 && (firsts[schema] >> number & 1) == 1;
                default:
                    return true;
            }
        }

        /** Takes back all schemas from this number on. */
        void cut(int number) {
            if (number >= 0 && number < count) {
                count = number;
            }
        }

        void become(Schemas other) {
            System.arraycopy(other.kinds, 0, kinds, 0, MOST_SCHEMAS);
            System.arraycopy(other.firsts, 0, firsts, 0, MOST_SCHEMAS);
            System.arraycopy(other.seconds, 0, seconds, 0, MOST_SCHEMAS);
            System.arraycopy(other.thirds, 0, thirds, 0, MOST_SCHEMAS);
            System.arraycopy(other.items, 0, items, 0, MOST_SCHEMAS * LABELS);
            System.arraycopy(other.musts, 0, musts, 0, MOST_SCHEMAS);
            System.arraycopy(other.told, 0, told, 0, MOST_SCHEMAS);
            System.arraycopy(other.bound, 0, bound, 0, NAMES);
            System.arraycopy(other.order, 0, order, 0, MOST_SCHEMAS);
            count = other.count;
            edition = other.edition;
        }
    }

    /** Which values are of which schemas, a bit for each schema, worked out once until a schema changes. */
    private static final class Members {
        private final Values pool;
        private final Schemas book;
        private final long[] bits = new long[MOST_VALUES];
        private final int[] editions = new int[MOST_VALUES];
        private final int[] filled = new int[MOST_VALUES];

        Members(Values pool, Schemas book) {
            this.pool = pool;
            this.book = book;
        }

        boolean belongs(int value, int schema) {
            if (!pool.has(value) || !book.has(schema)) {
                return false;
            }
            work(value, 1);
            return hasBit(value, schema);
        }

        private void work(int value, int depth) {
            if (!pool.has(value) || depth > MOST_DEPTH) {
                return;
            }
            if (editions[value] != book.edition) {
                editions[value] = book.edition;
                filled[value] = 0;
                bits[value] = 0;
            }
            if (filled[value] >= book.count) {
                return;
            }
            for (int i = 0; i < MOST_PARTS; i++) {
                work(pool.at(value, i), depth + 1);
            }
            for (int i = filled[value]; i < book.count; i++) {
                int schema = book.order[i];
                if (isMember(value, schema)) {
                    bits[value] |= 1L << schema;
                }
            }
            filled[value] = book.count;
        }

        private boolean isMember(int value, int schema) {
            char kind = book.kinds[schema];
            int a = book.firsts[schema];
            switch (kind) {
                case 'a':
                    return true;
                case 'u':
                    return hasBit(value, a) || hasBit(value, book.seconds[schema]);
                case '&':
                    return hasBit(value, a) && hasBit(value, book.seconds[schema]);
                case '!':
                    return !hasBit(value, a);
                case 'r':
                    return hasBit(value, book.target(schema));
                case 'l':
                    return pool.kinds[value] == kind && isListOf(value, schema);
                case 'o':
                    return pool.kinds[value] == kind && isRecordOf(value, schema);
                default:
                    return pool.kinds[value] == kind && book.takesNumber(schema, pool.numbers[value]);
            }
        }

        private boolean hasBit(int value, int schema) {
            return value >= 0 && schema >= 0 && (bits[value] >> schema & 1) == 1;
        }

        private boolean isListOf(int value, int schema) {
            int length = pool.numbers[value];
            if (length < book.seconds[schema] || length > book.thirds[schema]) {
                return false;
            }
            for (int i = 0; i < length; i++) {
                if (!hasBit(pool.at(value, i), book.firsts[schema])) {
                    return false;
                }
            }
            return true;
        }

        private boolean isRecordOf(int value, int schema) {
            for (int label = 0; label < LABELS; label++) {
                int item = book.itemAt(schema, label);
                int there = pool.at(value, label);
                if (there < 0 ? book.mustHave(schema, label)
                        : item < 0 ? book.isClosed(schema) : !hasBit(there, item)) {
                    return false;
                }
            }
            return true;
        }
    }

    /**
     * What values lack. Faults can be more than could be listed, so they are counted for each value
     * and schema, and the one at an index is sought down along the counts. A union asks which of two
     * counts is smaller, so they are kept in full, in digits of 60 bits: '&' can double a count some
     * fifty times on each of six levels.
     */
    private static final class Faults {
        private static final int DIGITS = 6;
        private static final int DIGIT_BITS = 60;
        private static final long MANY = 1L << DIGIT_BITS;
        private static final int MOST_SEEKING = 1000;

        private final Values pool;
        private final Schemas book;
        private final long[] counts = new long[MOST_VALUES * MOST_SCHEMAS * DIGITS];
        private final int[] editions = new int[MOST_VALUES];
        private final int[] filled = new int[MOST_VALUES];
        private int value = NONE;
        private int schema = NONE;
        private long left;
        int remembered;
        char letter;
        int path;

        Faults(Values pool, Schemas book) {
            this.pool = pool;
            this.book = book;
        }

        void remember(int ofValue, int ofSchema) {
            work(ofValue, 1);
            value = ofValue;
            schema = ofSchema;
            remembered = (int) Math.min(counted(ofValue, ofSchema), Integer.MAX_VALUE);
        }

        /** The number of faults, or a greater one than any that is counted where there are more. */
        long howMany(int ofValue, int ofSchema) {
            if (!pool.has(ofValue) || !book.has(ofSchema)) {
                return 0;
            }
            work(ofValue, 1);
            return counted(ofValue, ofSchema);
        }

        private void work(int v, int depth) {
            if (!pool.has(v) || depth > MOST_DEPTH) {
                return;
            }
            if (editions[v] != book.edition) {
                editions[v] = book.edition;
                filled[v] = 0;
            }
            if (filled[v] >= book.count) {
                return;
            }
            for (int i = 0; i < MOST_PARTS; i++) {
                work(pool.at(v, i), depth + 1);
            }
            for (int i = filled[v]; i < book.count; i++) {
                count(v, book.order[i]);
            }
            filled[v] = book.count;
        }

        private void count(int v, int s) {
            int first = book.firsts[s];
            int into = placeOf(v, s);
            Arrays.fill(counts, into, into + DIGITS, 0);
            switch (book.kinds[s]) {
                case 'a':
                    break;
                case '0':
                    raise(into, NONE, 1);
                    break;
                case 'u':
                    raise(into, placeOf(v, lesserSide(v, s)), 0);
                    break;
                case '&':
                    raise(into, placeOf(v, first), 0);
                    raise(into, placeOf(v, book.seconds[s]), 0);
                    break;
                case '!':
                    raise(into, NONE, counted(v, first) == 0 ? 1 : 0);
                    break;
                case 'r':
                    raise(into, placeOf(v, book.target(s)), book.target(s) < 0 ? 1 : 0);
                    break;
                default:
                    countOwn(v, s, into);
                    break;
            }
        }

        /** Counts what a value lacks by its kind, and what its parts lack. */
        private void countOwn(int v, int s, int into) {
            char own = ownFault(v, s);
            raise(into, NONE, own == ' ' ? 0 : 1);
            for (int i = 0; i < MOST_PARTS && own != 'k'; i++) {
                if (labelFault(v, s, i) != ' ') {
                    raise(into, NONE, 1);
                } else {
                    raise(into, placeOf(pool.at(v, i), book.below(s, i)), 0);
                }
            }
        }

        /** Where the count of a value and a schema stands, or -1. */
        private static int placeOf(int v, int s) {
            return v < 0 || s < 0 ? NONE : (v * MOST_SCHEMAS + s) * DIGITS;
        }

        /** Adds a count, if there is one, and a small number to another count. */
        private void raise(int into, int from, long more) {
            long carried = more;
            for (int i = 0; i < DIGITS; i++) {
                long sum = counts[into + i] + (from < 0 ? 0 : counts[from + i]) + carried;
                counts[into + i] = sum & (MANY - 1);
                carried = sum >>> DIGIT_BITS;
            }
        }

        /** The count, or a greater number than any digit if it has more than one. */
        private long counted(int v, int s) {
            int place = placeOf(v, s);
            if (place < 0) {
                return 0;
            }
            for (int i = 1; i < DIGITS; i++) {
                if (counts[place + i] != 0) {
                    return MANY;
                }
            }
            return counts[place];
        }

        /** The part of a union of which a value has fewer faults, of as many the first one. */
        private int lesserSide(int v, int s) {
            int one = placeOf(v, book.firsts[s]);
            int other = placeOf(v, book.seconds[s]);
            for (int i = DIGITS - 1; i >= 0; i--) {
                if (counts[one + i] != counts[other + i]) {
                    return counts[one + i] < counts[other + i] ? book.firsts[s] : book.seconds[s];
                }
            }
            return book.firsts[s];
        }

        /** The fault of the value by its kind, number or length, or a blank. */
        private char ownFault(int v, int s) {
            char kind = book.kinds[s];
            int number = pool.numbers[v];
            if (kind != pool.kinds[v]) {
                return 'k';
            }
            switch (kind) {
                case 'n':
                    return number < book.firsts[s] || number > book.seconds[s] ? 'r' : ' ';
                case 's':
                    return (book.firsts[s] >> number & 1) == 0 ? 'm' : ' ';
                case 'l':
                    return number < book.seconds[s] || number > book.thirds[s] ? 'g' : ' ';
                default:
                    return ' ';
            }
        }

        private long faultsAt(int v, int s, int index) {
            return labelFault(v, s, index) != ' ' ? 1 : counted(pool.at(v, index), book.below(s, index));
        }

        /** The fault of a label by what is there or not, or a blank. */
        private char labelFault(int v, int s, int label) {
            int there = pool.at(v, label);
            if (book.kinds[s] != 'o') {
                return ' ';
            }
            if (there < 0) {
                return book.mustHave(s, label) ? 'q' : ' ';
            }
            return book.itemAt(s, label) < 0 && book.isClosed(s) ? 'x' : ' ';
        }

        /** Finds the letter and the path of the remembered fault at an index below the count. */
        void seek(int index) {
            int v = value;
            int s = schema;
            left = index;
            path = 0;
            letter = ' ';
            for (int i = 0; i < MOST_SEEKING && letter == ' ' && v >= 0 && s >= 0; i++) {
                switch (book.kinds[s]) {
                    case 'u':
                    case '&':
                        s = side(v, s);
                        break;
                    case 'r':
                        letter = book.target(s) < 0 ? '0' : ' ';
                        s = book.target(s);
                        break;
                    case '0':
                    case '!':
                        letter = book.kinds[s];
                        break;
                    default:
                        int place = enter(v, s);
                        v = pool.at(v, place);
                        s = book.below(s, place);
                        break;
                }
            }
        }

        /** The part of a join in which the fault is. */
        private int side(int v, int s) {
            if (book.kinds[s] == 'u') {
                return lesserSide(v, s);
            }
            long first = counted(v, book.firsts[s]);
            if (left < first) {
                return book.firsts[s];
            }
            left -= first;
            return book.seconds[s];
        }

        /** Takes a value's own fault, or goes on to the part that has the fault; returns its place. */
        private int enter(int v, int s) {
            char own = ownFault(v, s);
            if (own != ' ') {
                if (left == 0) {
                    letter = own;
                    return NONE;
                }
                left--;
            }
            for (int i = 0; i < MOST_PARTS; i++) {
                long here = faultsAt(v, s, i);
                if (left < here) {
                    path = 10 * path + (book.kinds[s] == 'l' ? 5 : 1) + i;
                    letter = labelFault(v, s, i);
                    return i;
                }
                left -= here;
            }
            return NONE;
        }
    }

    /** What matters for one question about two schemas: the schemas that they are made of. */
    private static final class Cone {
        private final Schemas book;
        private final int[] joins = new int[MOST_SCHEMAS];
        private final int[] leaves = new int[MOST_SCHEMAS];
        private final int[] lists = new int[MOST_SCHEMAS];
        private final int[] records = new int[MOST_SCHEMAS];
        private final long[] untold = new long[LABELS];
        private final long[] lacking = new long[LABELS];
        private final long[] alive = new long[MOST_PARTS + 1];
        private final long[] fitting = new long[MOST_PARTS + 1];
        private int joinCount;
        private int leafCount;
        private int listCount;
        private int recordCount;
        private long around;
        private long always;
        private long items;
        /** The schemas of which it helps to be, and those of which it helps not to be, for an answer. */
        long rising;
        long falling;

        Cone(Schemas book) {
            this.book = book;
        }

        static boolean holds(long bits, int schema) {
            return schema >= 0 && (bits >> schema & 1) == 1;
        }

        static long bit(int schema) {
            return schema < 0 ? 0 : 1L << schema;
        }

        /** Gathers what tells whether a value is of the schema and not of the other one, or -1. */
        void prepare(int schema, int other) {
            gather(schema, other);
            sortAll();
        }

        /** Gathers all schemas. */
        void prepareAll() {
            book.fold();
            around = book.count == 0 ? 0 : -1L >>> (64 - book.count);
            sortAll();
        }

        private void sortAll() {
            joinCount = 0;
            leafCount = 0;
            listCount = 0;
            recordCount = 0;
            always = book.always;
            items = 0;
            for (int i = 0; i < book.count; i++) {
                int s = book.order[i];
                if (holds(around & ~(book.always | book.never), s)) {
                    sort(s);
                }
            }
            for (int length = 0; length <= MOST_PARTS; length++) {
                sortLength(length);
            }
            for (int label = 0; label < LABELS; label++) {
                sortLabel(label);
            }
        }

        /** What is always or never met needs nothing else, and tells no values apart. */
        private void gather(int schema, int other) {
            book.fold();
            long open = ~(book.always | book.never);
            rising = bit(schema) & open;
            falling = bit(other) & open;
            boolean grown = true;
            for (int pass = 0; pass <= 2 * MOST_SCHEMAS && grown; pass++) {
                long before = rising;
                long beforeFalling = falling;
                for (int s = book.count - 1; s >= 0; s--) {
                    boolean turns = book.kinds[s] == '!';
                    long below = holds(rising | falling, s) ? (book.joined(s) | book.nested(s)) & open : 0;
                    boolean rises = holds(rising, s);
                    boolean falls = holds(falling, s);
                    rising |= (turns ? falls : rises) ? below : 0;
                    falling |= (turns ? rises : falls) ? below : 0;
                }
                grown = rising != before || falling != beforeFalling;
            }
            around = rising | falling;
        }

        private void sort(int s) {
            items |= book.nested(s);
            switch (book.kinds[s]) {
                case 'l':
                    lists[listCount] = s;
                    listCount++;
                    break;
                case 'o':
                    records[recordCount] = s;
                    recordCount++;
                    break;
                case 'u':
                case '&':
                case '!':
                case 'r':
                    joins[joinCount] = s;
                    joinCount++;
                    break;
                default:
                    leaves[leafCount] = s;
                    leafCount++;
                    break;
            }
        }

        private void sortLength(int length) {
            alive[length] = 0;
            fitting[length] = 0;
            for (int i = 0; i < listCount; i++) {
                int s = lists[i];
                if (book.thirds[s] >= length) {
                    alive[length] |= bit(s);
                    fitting[length] |= book.seconds[s] <= length ? bit(s) : 0;
                }
            }
        }

        private void sortLabel(int label) {
            untold[label] = 0;
            lacking[label] = 0;
            for (int i = 0; i < recordCount; i++) {
                int s = records[i];
                boolean open = book.itemAt(s, label) < 0 && !book.isClosed(s);
                untold[label] |= open ? bit(s) : 0;
                lacking[label] |= book.mustHave(s, label) ? 0 : bit(s);
            }
        }

        /** The schemas of its own kind that a leaf is of. */
        long ofLeaf(char kind, int number) {
            long bits = 0;
            for (int i = 0; i < leafCount; i++) {
                int s = leaves[i];
                if (book.kinds[s] == kind && book.takesNumber(s, number)) {
                    bits |= bit(s);
                }
            }
            return bits;
        }

        int breaks() {
            return 2 * leafCount + 1;
        }

        /** Numbers between two breaks are of the same schemas, so the breaks stand for all. */
        int breakAt(int index) {
            if (index <= 0 || index > 2 * leafCount) {
                return -99;
            }
            int s = leaves[(index - 1) / 2];
            if (book.kinds[s] != 'n') {
                return -99;
            }
            return index % 2 == 0 ? book.firsts[s] : Math.min(book.seconds[s] + 1, 99);
        }

        /** All schemas that a value is of, from those of its own kind. */
        long joinedUp(long own) {
            long bits = own | always;
            for (int i = 0; i < joinCount; i++) {
                int s = joins[i];
                char kind = book.kinds[s];
                boolean one = holds(bits, kind == 'r' ? book.target(s) : book.firsts[s]);
                boolean is = one;
                if (kind == 'u') {
                    is = one || holds(bits, book.seconds[s]);
                } else if (kind == '&') {
                    is = one && holds(bits, book.seconds[s]);
                } else if (kind == '!') {
                    is = !one;
                }
                bits |= is ? bit(s) : 0;
            }
            return bits;
        }

        /** What others can see of a value that is a part of them. */
        long asItem(long bits) {
            return bits & items;
        }

        /** The list schemas that let a value be a part. */
        long asPart(long bits) {
            long those = 0;
            for (int i = 0; i < listCount; i++) {
                those |= holds(bits, book.firsts[lists[i]]) ? bit(lists[i]) : 0;
            }
            return those;
        }

        /** The record schemas that let a value be at a label. */
        long atLabel(long bits, int label) {
            long those = untold[label];
            for (int i = 0; i < recordCount; i++) {
                int s = records[i];
                those |= holds(bits, book.itemAt(s, label)) ? bit(s) : 0;
            }
            return those;
        }

        /** The record schemas that let a label be without a value. */
        long withoutLabel(int label) {
            return lacking[label];
        }

        /** The list schemas that take a list of this length or a longer one. */
        long reaching(int length) {
            return alive[length];
        }

        /** The list schemas that take lists of this length. */
        long taking(int length) {
            return fitting[length];
        }
    }

    /** Rows of bits, each once, with the smallest size found for it. */
    private static final class Table {
        private static final int LEAST_ROOM = 32;
        private static final int MOST_ROOM = 1 << 16;
        private static final int GROWTH = 8;
        private static final int LOOKS = 32;

        long[] keys = new long[LEAST_ROOM];
        int[] sizes = new int[LEAST_ROOM];
        private int[] homes = new int[LEAST_ROOM];
        private int[] slots = new int[2 * LEAST_ROOM];
        private long more;
        private long fewer;
        private int most;
        int count;
        /** Whether a row found no room. */
        boolean spilled;

        /** Empties the table for so many rows of bits of which it helps to have, and not to have, these. */
        void start(long rising, long falling, int rows) {
            more = rising;
            fewer = falling;
            most = Math.min(rows, MOST_ROOM);
            spilled = false;
            clear();
        }

        void clear() {
            for (int i = 0; i < count; i++) {
                slots[homes[i]] = 0;
            }
            count = 0;
        }

        /**
         * Puts a row in, or makes its size smaller, if no other one serves as well. Returns whether the
         * row tells something new, which a row without room does, too.
         */
        boolean lower(long key, int size) {
            int slot = slotOf(key);
            if (slots[slot] > 0) {
                int at = slots[slot] - 1;
                if (sizes[at] <= size) {
                    return false;
                }
                sizes[at] = size;
                return true;
            }
            if (isOutdone(key, size)) {
                return false;
            }
            if (count >= most) {
                spilled = true;
                return true;
            }
            if (count >= keys.length) {
                grow();
                slot = slotOf(key);
            }
            insert(slot, key, size);
            return true;
        }

        /** Looks at a few rows only: leaving a row in that others outdo costs time and nothing else. */
        private boolean isOutdone(long key, int size) {
            if (more == fewer) {
                return false;
            }
            int looks = Math.min(count, LOOKS);
            for (int i = 0; i < looks; i++) {
                long missing = key & ~keys[i] & more;
                long excess = keys[i] & ~key & fewer;
                if ((missing | excess) == 0 && sizes[i] <= size) {
                    return true;
                }
            }
            return false;
        }

        private void insert(int slot, long key, int size) {
            keys[count] = key;
            sizes[count] = size;
            homes[count] = slot;
            count++;
            slots[slot] = count;
        }

        /** The slot that a key has or would get; there are always free ones. */
        private int slotOf(long key) {
            long mixed = key * 0x9E3779B97F4A7C15L;
            int mask = slots.length - 1;
            int slot = (int) (mixed >>> 32) & mask;
            for (int i = 0; i < slots.length && slots[slot] > 0 && keys[slots[slot] - 1] != key; i++) {
                slot = (slot + 1) & mask;
            }
            return slot;
        }

        /** Grows by much, for the arrays that are left behind count as well. */
        private void grow() {
            int room = Math.min(GROWTH * keys.length, MOST_ROOM);
            keys = Arrays.copyOf(keys, room);
            sizes = Arrays.copyOf(sizes, room);
            homes = Arrays.copyOf(homes, room);
            slots = new int[2 * room];
            for (int i = 0; i < count; i++) {
                int slot = slotOf(keys[i]);
                homes[i] = slot;
                slots[slot] = i + 1;
            }
        }
    }

    /**
     * What values must be of and must not be of, each pair once, with the smallest size found for it and
     * the size below which it was looked into. On the trail are those to look into, the newest first;
     * later come once more those that hang on others that were not settled, as long as something changes.
     */
    private static final class Needs {
        static final int ENDLESS = 1 << 20;
        /** No list or record that is not empty is smaller. */
        static final int LEAST_DEEP = 2;
        private static final int LEAST_ROOM = 64;
        private static final int MOST_ROOM = 1 << 17;
        private static final int GROWTH = 8;
        private static final int IDLE = 0;
        private static final int LISTED = 1;
        private static final int BARREN = 2;

        long[] yes = new long[LEAST_ROOM];
        long[] no = new long[LEAST_ROOM];
        private int[] sizes = new int[LEAST_ROOM];
        private int[] reaches = new int[LEAST_ROOM];
        private int[] marks = new int[LEAST_ROOM];
        private int[] slots = new int[2 * LEAST_ROOM];
        private int[] trail = new int[LEAST_ROOM];
        private int[] later = new int[LEAST_ROOM];
        private int count;
        private int trailCount;
        private int laterCount;
        private int edition = NONE;
        private boolean changed;
        /** The size from which on nothing is asked for. */
        private int most;
        /** Whether any size does, for it is only asked whether there is one. */
        boolean isProof;
        /** Whether what is looked into hangs on something that is not settled. */
        private boolean isOpen;
        /** How many more may come in until the next look. */
        int fresh;
        /** The one that is looked into, or -1. */
        int current = NONE;

        /** Starts a row of looks with an empty trail, for sizes below this one, with room for what is asked for. */
        void start(int ofEdition, int reach) {
            drop();
            // What is known of the same schemas is kept, unless that leaves little room.
            if (edition != ofEdition || count > MOST_ROOM / 2) {
                Arrays.fill(slots, 0);
                count = 0;
            }
            edition = ofEdition;
            most = reach;
            isProof = reach == ENDLESS;
            fresh = hasRoom(1) ? 1 : 0;
        }

        /** Takes off the lists what was not looked into to the end. */
        void drop() {
            for (int i = 0; i < trailCount; i++) {
                forget(trail[i]);
            }
            for (int i = 0; i < laterCount; i++) {
                forget(later[i]);
            }
            trailCount = 0;
            laterCount = 0;
            changed = false;
            current = NONE;
            fresh = 0;
        }

        private void forget(int place) {
            marks[place] = IDLE;
            reaches[place] = 0;
        }

        boolean isBusy() {
            return trailCount + laterCount > 0;
        }

        private boolean hasRoom(int more) {
            if (count + more <= yes.length) {
                return true;
            }
            int room = Math.min(GROWTH * yes.length, MOST_ROOM);
            if (count + more > room) {
                return false;
            }
            yes = Arrays.copyOf(yes, room);
            no = Arrays.copyOf(no, room);
            sizes = Arrays.copyOf(sizes, room);
            reaches = Arrays.copyOf(reaches, room);
            marks = Arrays.copyOf(marks, room);
            trail = Arrays.copyOf(trail, room);
            later = Arrays.copyOf(later, room);
            slots = new int[2 * room];
            for (int i = 0; i < count; i++) {
                slots[slotOf(yes[i], no[i])] = i + 1;
            }
            return true;
        }

        private int slotOf(long must, long mustNot) {
            long mixed = (must * 0x9E3779B97F4A7C15L ^ mustNot) * 0xC2B2AE3D27D4EB4FL;
            int mask = slots.length - 1;
            int slot = (int) (mixed >>> 32) & mask;
            for (int i = 0; i < slots.length && slots[slot] > 0; i++) {
                int there = slots[slot] - 1;
                if (yes[there] == must && no[there] == mustNot) {
                    return slot;
                }
                slot = (slot + 1) & mask;
            }
            return slot;
        }

        /** The place of a pair, which may be new, or -1 if no more may come in now. */
        int placeOf(long must, long mustNot) {
            int slot = slotOf(must, mustNot);
            if (slots[slot] > 0) {
                return slots[slot] - 1;
            }
            if (fresh <= 0 || count >= yes.length) {
                return NONE;
            }
            int made = count;
            yes[made] = must;
            no[made] = mustNot;
            sizes[made] = ENDLESS;
            reaches[made] = 0;
            marks[made] = IDLE;
            count++;
            slots[slot] = count;
            return made;
        }

        /** The smallest size known at a place; if there may be a smaller one below the limit, it comes on the trail. */
        int sizeAt(int place, int limit) {
            if (place < 0) {
                isOpen = true;
                return ENDLESS;
            }
            // A value is greater than its parts, so that asking for itself makes none that is smaller.
            if (place == current || marks[place] == BARREN) {
                return ENDLESS;
            }
            int known = sizes[place];
            if (isEnough(known)) {
                return known;
            }
            if (marks[place] == LISTED) {
                isOpen = true;
                changed |= limit > reaches[place];
                reaches[place] = limit > reaches[place] ? raised(place, limit) : reaches[place];
                return known;
            }
            if (!isProof && (known <= reaches[place] || limit <= reaches[place])) {
                return known < limit ? known : ENDLESS;
            }
            isOpen = true;
            if (fresh > 0) {
                fresh--;
                marks[place] = LISTED;
                reaches[place] = raised(place, limit);
                trail[trailCount] = place;
                trailCount++;
            }
            return known;
        }

        /** What was looked into ahead, and not far enough, is looked into twice as far. */
        private int raised(int place, int limit) {
            return Math.min(most, Math.max(limit, 2 * reaches[place]));
        }

        /** Goes to the next one to look into, with room for so many new ones; false if there is none, or no room. */
        boolean goesOn(int more) {
            if (trailCount == 0 && isProof && current >= 0 && sizes[current] < ENDLESS) {
                // The last one is the question itself, and there is one.
                drop();
            }
            if (trailCount == 0) {
                goBack();
            }
            boolean goes = trailCount > 0 && hasRoom(more);
            current = goes ? trail[trailCount - 1] : NONE;
            fresh = goes ? more : 0;
            isOpen = false;
            return goes;
        }

        /** Takes up again those that hang on others, or settles them, if nothing changed meanwhile. */
        private void goBack() {
            for (int i = laterCount - 1; i >= 0; i--) {
                if (changed) {
                    trail[trailCount] = later[i];
                    trailCount++;
                } else {
                    settle(later[i]);
                }
            }
            laterCount = 0;
            changed = false;
        }

        private void settle(int place) {
            marks[place] = isProof && sizes[place] == ENDLESS ? BARREN : IDLE;
            reaches[place] = isProof ? 0 : reaches[place];
        }

        /** The size below which a smaller one than is known of the current one is of interest. */
        int reach() {
            return current < 0 ? 0 : Math.min(sizes[current], reaches[current]);
        }

        void lower(int size) {
            if (current >= 0 && size < reach()) {
                sizes[current] = size;
                changed = true;
            }
        }

        /** Whether a size needs no look for a smaller one. */
        boolean isEnough(int size) {
            return size <= LEAST_DEEP || (isProof && size < ENDLESS);
        }

        /**
         * Puts the current one away, unless something came in that has to be looked into ahead of it. If
         * its size is enough, what came in for it goes again.
         */
        void done(int size) {
            boolean isEnough = isEnough(size);
            for (int i = trailCount - 1; i >= 0 && isEnough && trail[i] != current; i--) {
                forget(trail[i]);
                trailCount--;
            }
            if (trailCount == 0 || trail[trailCount - 1] != current) {
                return;
            }
            trailCount--;
            if (isEnough || !isOpen) {
                settle(current);
            } else {
                later[laterCount] = current;
                laterCount++;
            }
        }
    }

    /**
     * Finds smallest values from the question down: what a value must and must not be of is split until
     * lists and records alone are left, and these ask the same of the parts. A value of size 1 is looked
     * for first, so all else is about lists and records that are not empty.
     */
    private static final class Descent {
        private static final int EITHER = 0;
        private static final int LISTS = 1;
        private static final int RECORDS = 2;
        /** Two bits behind the schemas: to be a list, and to be a record. */
        private static final long LIST = 1L << MOST_SCHEMAS;
        private static final long RECORD = 2L << MOST_SCHEMAS;
        private static final int ATOMS = 0;
        private static final int JOINS = 1;
        private static final int UNIONS = 2;
        private static final int MEETS = 3;
        private static final int FRESH = 32;
        private static final int FRESH_PROOF = 8;
        private static final int REACHES = 8;
        private static final int LEAST_REACH = 4;
        private static final int MOST_LOOKS = 100000000;
        private static final int MOST_SPLITS = 1000000;
        private static final int STACK = 2 * MOST_SCHEMAS;
        /** On the stack: to be of, not to be of, and what of both another way covers already. */
        private static final int WIDTH = 4;
        private static final int[] PLACES = {1, 2, 4, 8, 3, 5, 6, 9, 10, 12, 7, 11, 13, 14, 15};
        private static final int[] LENGTHS = {1, 3, 7, 15};

        private final Schemas book;
        private final Cone cone;
        private final Needs needs = new Needs();
        private final Table singles = new Table();
        /** What follows from being of a schema, and what that bars; then both for not being of it. */
        private final long[] follows = new long[4 * MOST_SCHEMAS];
        private final long[] nevers = new long[3];
        private final long[] alwayses = new long[3];
        private final long[] groups = new long[4];
        private final long[] stack = new long[WIDTH * (STACK + 2)];
        /** For each part: of what it must be, of what not, and of what others see to that it is not. */
        private final long[] wants = new long[MOST_PARTS];
        private final long[] misses = new long[MOST_PARTS];
        private final long[] barred = new long[MOST_PARTS];
        private final int[] costs = new int[MOST_PARTS];
        private final int[] twins = new int[MOST_PARTS];
        private long yes;
        private long no;
        private int best;
        private int left;
        /** Whether the last answer is the smallest size, or that there is none. */
        boolean isSure;

        Descent(Schemas book) {
            this.book = book;
            cone = new Cone(book);
        }

        /** Gets ready for the schemas as they are. */
        void prepare() {
            cone.prepareAll();
            Arrays.fill(groups, 0);
            Arrays.fill(nevers, book.never);
            Arrays.fill(alwayses, book.always);
            nevers[LISTS] |= RECORD;
            nevers[RECORDS] |= LIST;
            alwayses[LISTS] |= LIST;
            alwayses[RECORDS] |= RECORD;
            for (int i = 0; i < book.count; i++) {
                int s = book.order[i];
                follow(s);
                for (int kind = LISTS; kind <= RECORDS; kind++) {
                    nevers[kind] |= isNever(s, kind) ? Cone.bit(s) : 0;
                    alwayses[kind] |= isAlways(s, kind) ? Cone.bit(s) : 0;
                }
            }
            nevers[EITHER] = nevers[LISTS] & nevers[RECORDS];
            alwayses[EITHER] = alwayses[LISTS] & alwayses[RECORDS];
            addSingles();
        }

        private void follow(int s) {
            int at = 4 * s;
            long own = Cone.bit(s);
            follows[at] = own;
            follows[at + 1] = 0;
            follows[at + 2] = 0;
            follows[at + 3] = own;
            int a = book.kinds[s] == 'r' ? book.target(s) : book.firsts[s];
            int b = book.seconds[s];
            switch (book.kinds[s]) {
                case 'u':
                    groups[UNIONS] |= own;
                    groups[JOINS] |= own;
                    draw(at + 2, a, 2);
                    draw(at + 2, b, 2);
                    draw(at, a == b ? a : NONE, 0);
                    break;
                case '&':
                    groups[MEETS] |= own;
                    groups[JOINS] |= own;
                    draw(at, a, 0);
                    draw(at, b, 0);
                    draw(at + 2, a == b ? a : NONE, 2);
                    break;
                case '!':
                    groups[JOINS] |= own;
                    draw(at, a, 2);
                    draw(at + 2, a, 0);
                    break;
                case 'r':
                    groups[JOINS] |= own;
                    draw(at, a, 0);
                    draw(at + 2, a, 2);
                    break;
                case 'a':
                case '0':
                    break;
                default:
                    groups[ATOMS] |= own;
                    break;
            }
        }

        /** Adds what follows from being (0), or not being (2), of another schema. */
        private void draw(int at, int other, int not) {
            if (other >= 0) {
                follows[at] |= follows[4 * other + not];
                follows[at + 1] |= follows[4 * other + not + 1];
            }
        }

        /** Whether no list, or no record, but perhaps the empty one is of a schema, by how it is written. */
        private boolean isNever(int s, int kind) {
            long never = nevers[kind];
            int a = book.firsts[s];
            switch (book.kinds[s]) {
                case 'l':
                    return kind == RECORDS || book.thirds[s] == 0 || Cone.holds(book.never, a);
                case 'o':
                    return kind == LISTS || book.barred(s) == ALL_PLACES;
                case 'u':
                    return Cone.holds(never, a) && Cone.holds(never, book.seconds[s]);
                case '&':
                    return Cone.holds(never, a) || Cone.holds(never, book.seconds[s]);
                case '!':
                    return Cone.holds(alwayses[kind], a);
                case 'r':
                    return Cone.holds(never, book.target(s));
                case 'a':
                case '0':
                    return false;
                default:
                    return true;
            }
        }

        /** Whether each list, or each record, but perhaps the empty one is of a schema, by how it is written. */
        private boolean isAlways(int s, int kind) {
            long always = alwayses[kind];
            int a = book.firsts[s];
            switch (book.kinds[s]) {
                case 'l':
                    return kind == LISTS && book.seconds[s] <= 1 && book.thirds[s] == MOST_PARTS
                            && Cone.holds(book.always, a);
                case 'o':
                    return kind == RECORDS && (book.needed(s) | book.barred(s)) == 0
                            && (book.nested(s) & ~book.always) == 0;
                case 'u':
                    return Cone.holds(always, a) || Cone.holds(always, book.seconds[s]);
                case '&':
                    return Cone.holds(always, a) && Cone.holds(always, book.seconds[s]);
                case '!':
                    return Cone.holds(nevers[kind], a);
                case 'r':
                    return Cone.holds(always, book.target(s));
                default:
                    return false;
            }
        }

        private void addSingles() {
            singles.start(0, 0, 4 * MOST_SCHEMAS);
            addSingle(cone.ofLeaf('z', 0));
            addSingle(cone.ofLeaf('b', 0));
            addSingle(cone.taking(0));
            addSingle(cone.withoutLabel(0) & cone.withoutLabel(1) & cone.withoutLabel(2) & cone.withoutLabel(3));
            for (int symbol = 0; symbol <= 9; symbol++) {
                addSingle(cone.ofLeaf('s', symbol));
            }
            for (int i = 0; i < cone.breaks(); i++) {
                addSingle(cone.ofLeaf('n', cone.breakAt(i)));
            }
        }

        private void addSingle(long own) {
            singles.lower(cone.joinedUp(own), 1);
        }

        /**
         * The smallest size found of a value of a schema and not of another one, or the bound, if none is
         * smaller. First it is asked whether there is one at all, unless the bound tells so, and then for
         * one below a size that doubles.
         */
        int smallest(int schema, int other, int bound, int mostAsked) {
            int found = bound;
            isSure = false;
            boolean goesOn = true;
            for (int turn = bound < Needs.ENDLESS ? 1 : 0; turn <= REACHES && goesOn; turn++) {
                int reach = turn == 0 ? Needs.ENDLESS : Math.min(LEAST_REACH << turn, found);
                left = mostAsked;
                needs.start(book.edition, reach);
                cost(Cone.bit(schema), Cone.bit(other), reach);
                for (int look = 0; look < MOST_LOOKS && needs.goesOn(turn == 0 ? FRESH_PROOF : FRESH); look++) {
                    best = needs.reach();
                    lookInto(LISTS);
                    lookInto(RECORDS);
                    needs.lower(best);
                    if (left <= 0) {
                        break;
                    }
                    needs.done(best);
                }
                boolean ended = !needs.isBusy();
                found = Math.min(found, cost(Cone.bit(schema), Cone.bit(other), reach));
                isSure = ended && (turn == 0 ? found == Needs.ENDLESS : found <= reach);
                goesOn = !isSure && (turn == 0 || ended);
            }
            needs.drop();
            return found;
        }

        /** Looks for smaller lists, or records, that meet what is asked for. */
        private void lookInto(int kind) {
            push(0, needs.yes[needs.current], needs.no[needs.current], 0, 0);
            int high = 1;
            int[] shapes = kind == LISTS ? LENGTHS : PLACES;
            for (int split = 0; split <= MOST_SPLITS && high > 0; split++) {
                left = split == MOST_SPLITS || high > STACK ? 0 : left;
                if (isHalted()) {
                    return;
                }
                high--;
                yes = stack[WIDTH * high];
                no = stack[WIDTH * high + 1];
                if (!ease(nevers[kind] | stack[WIDTH * high + 2], alwayses[kind] | stack[WIDTH * high + 3])) {
                    continue;
                }
                if ((openUnions(kind) | openMeets(kind)) != 0) {
                    split(kind, high);
                    high += 2;
                    continue;
                }
                long those = yes & groups[ATOMS];
                long others = no & groups[ATOMS] & ~nevers[kind];
                for (int i = 0; i < shapes.length && !isHalted(); i++) {
                    if (1 + Long.bitCount(shapes[i]) < best) {
                        assign(rivals(shapes[i], others), 0, opened(shapes[i], those, others));
                    }
                }
            }
        }

        /** Whether the current look needs to go no further: it found enough, or has to wait for what came in. */
        private boolean isHalted() {
            return left <= 0 || needs.fresh <= 0 || needs.isEnough(best);
        }

        /** The size below which a part is of use, if all else has this size. */
        private int limit(int others) {
            return needs.isProof ? Needs.ENDLESS : best - others;
        }

        /** Puts both ways to meet an open choice on the stack; the second way leaves out what the first one covers. */
        private void split(int kind, int high) {
            long barred = stack[WIDTH * high + 2];
            long barredNot = stack[WIDTH * high + 3];
            long unions = openUnions(kind);
            int s = Long.numberOfTrailingZeros(unions != 0 ? unions : openMeets(kind));
            long first = Cone.bit(book.firsts[s]);
            long second = Cone.bit(book.seconds[s]);
            if (unions != 0) {
                push(high, yes | second, no, barred | first, barredNot);
                push(high + 1, yes | first, no, barred, barredNot);
            } else {
                push(high, yes, no | second, barred, barredNot | first);
                push(high + 1, yes, no | first, barred, barredNot);
            }
        }

        private void push(int at, long must, long mustNot, long barred, long barredNot) {
            stack[WIDTH * at] = must;
            stack[WIDTH * at + 1] = mustNot;
            stack[WIDTH * at + 2] = barred;
            stack[WIDTH * at + 3] = barredNot;
        }

        /** Those that some part must keep a value with parts at these places from. */
        private long rivals(int places, long others) {
            long rivals = others;
            long rest = others;
            for (int n = 0; n < MOST_SCHEMAS && rest != 0; n++) {
                int s = Long.numberOfTrailingZeros(rest);
                rest &= rest - 1;
                rivals &= takes(s, places) ? -1L : ~Cone.bit(s);
            }
            return rivals;
        }

        private boolean takes(int s, int places) {
            return ((book.needed(s) & ~places) | (book.barred(s) & places)) == 0;
        }

        /** The size, so far, of a value with parts at these places; ENDLESS if there can't be one. */
        private int opened(int places, long those, long others) {
            Arrays.fill(wants, 0);
            Arrays.fill(misses, 0);
            Arrays.fill(barred, book.always);
            Arrays.fill(costs, 0);
            long rest = those;
            for (int n = 0; n < MOST_SCHEMAS && rest != 0; n++) {
                int s = Long.numberOfTrailingZeros(rest);
                rest &= rest - 1;
                if (!takes(s, places)) {
                    return Needs.ENDLESS;
                }
                for (int i = 0; i < MOST_PARTS; i++) {
                    add(i, book.below(s, i), 0);
                }
            }
            int total = 1;
            for (int i = 0; i < MOST_PARTS && total < best; i++) {
                int behind = Integer.bitCount(places >> i >> 1);
                twins[i] = twinOf(i, places, others);
                costs[i] = (places >> i & 1) == 0 ? 0 : cost(wants[i], misses[i], limit(total + behind));
                total += costs[i];
            }
            return total;
        }

        /** Adds to a part what it must be (0) or not be (2), and what follows. */
        private void add(int part, int item, int not) {
            if (item >= 0) {
                wants[part] |= follows[4 * item + not];
                misses[part] |= follows[4 * item + not + 1];
            }
        }

        /** The last place ahead of this one where all the same is asked for, or -1. */
        private int twinOf(int place, int places, long others) {
            for (int i = place - 1; i >= 0; i--) {
                boolean same = (places >> i & 1) == 1 && wants[i] == wants[place] && misses[i] == misses[place];
                long rest = others;
                for (int n = 0; n < MOST_SCHEMAS && rest != 0 && same; n++) {
                    int s = Long.numberOfTrailingZeros(rest);
                    rest &= rest - 1;
                    same = book.below(s, i) == book.below(s, place);
                }
                if (same) {
                    return i;
                }
            }
            return NONE;
        }

        /**
         * Gives each of these rivals a part that keeps the value from being of it, the one with the fewest
         * ways first. What a way covers is barred from those behind it.
         */
        private void assign(long rivals, int touched, int total) {
            if (total >= best || isHalted()) {
                return;
            }
            int s = nextOf(rivals, touched);
            if (s < 0) {
                best = Math.min(total, MOST_SIZE);
                return;
            }
            long one = barred[0];
            long two = barred[1];
            long three = barred[2];
            long four = barred[3];
            for (int i = 0; i < MOST_PARTS; i++) {
                if (helps(s, i, touched)) {
                    long wanted = wants[i];
                    long missed = misses[i];
                    int was = costs[i];
                    add(i, book.below(s, i), 2);
                    if ((misses[i] & (barred[i] | wants[i])) == 0) {
                        costs[i] = cost(wants[i], misses[i], limit(total - was));
                        assign(rivals & ~Cone.bit(s), touched | 1 << i, total - was + costs[i]);
                    }
                    wants[i] = wanted;
                    misses[i] = missed;
                    costs[i] = was;
                    bar(s, i, touched);
                }
            }
            barred[0] = one;
            barred[1] = two;
            barred[2] = three;
            barred[3] = four;
        }

        /** The rival with the fewest ways left, or -1 if the value is kept from all of them. */
        private int nextOf(long rivals, int touched) {
            int next = NONE;
            int fewest = MOST_PARTS + 1;
            long rest = rivals;
            for (int n = 0; n < MOST_SCHEMAS && rest != 0; n++) {
                int s = Long.numberOfTrailingZeros(rest);
                rest &= rest - 1;
                int ways = 0;
                for (int i = 0; i < MOST_PARTS; i++) {
                    boolean isMissed = costs[i] > 0 && Cone.holds(misses[i], book.below(s, i));
                    ways += isMissed ? MOST_PARTS + 1 : helps(s, i, touched) ? 1 : 0;
                }
                next = ways < fewest ? s : next;
                fewest = Math.min(ways, fewest);
            }
            return next;
        }

        /** Whether the part at a place can keep the value from a rival, and no place that is as good comes ahead. */
        private boolean helps(int s, int i, int touched) {
            int item = book.below(s, i);
            boolean isSpare = twins[i] >= 0 && (touched >> i & 1) == 0 && (touched >> twins[i] & 1) == 0;
            return costs[i] > 0 && item >= 0 && !isSpare && !Cone.holds(wants[i] | barred[i], item);
        }

        /** Bars a way from now on, and those that are as good. */
        private void bar(int s, int place, int touched) {
            int those = 1 << place;
            barred[place] |= Cone.bit(book.below(s, place));
            for (int i = place + 1; i < MOST_PARTS && (touched >> place & 1) == 0; i++) {
                if (twins[i] >= 0 && (those >> twins[i] & 1) == 1 && (touched >> i & 1) == 0) {
                    those |= 1 << i;
                    barred[i] |= Cone.bit(book.below(s, i));
                }
            }
        }

        /** The smallest size known of a value of all these and of none of those, as far as it is below the limit. */
        private int cost(long must, long mustNot, int limit) {
            left--;
            for (int i = 0; i < singles.count; i++) {
                if (((must & ~singles.keys[i]) | (mustNot & singles.keys[i])) == 0) {
                    return 1;
                }
            }
            yes = must;
            no = mustNot;
            if (limit <= Needs.LEAST_DEEP || !ease(nevers[EITHER], alwayses[EITHER])) {
                return Needs.ENDLESS;
            }
            boolean noList = ((yes & nevers[LISTS]) | (no & alwayses[LISTS])) != 0;
            boolean noRecord = ((yes & nevers[RECORDS]) | (no & alwayses[RECORDS])) != 0;
            int kind = noList ? RECORDS : noRecord ? LISTS : EITHER;
            no |= (noList ? LIST : 0) | (noRecord ? RECORD : 0);
            if (!ease(nevers[kind], alwayses[kind])) {
                return Needs.ENDLESS;
            }
            long keptYes = (yes & groups[ATOMS] & ~alwayses[kind]) | openUnions(kind);
            long keptNo = (no & (groups[ATOMS] | LIST | RECORD) & ~(nevers[kind] & groups[ATOMS])) | openMeets(kind);
            return needs.sizeAt(needs.placeOf(keptYes, keptNo), limit);
        }

        /** Adds all that follows from what a value is of and not of, if it is never and always of these; false if it can't be. */
        private boolean ease(long never, long always) {
            long knownYes = 0;
            long knownNo = 0;
            boolean grown = true;
            for (int pass = 0; pass <= 2 * MOST_SCHEMAS && grown; pass++) {
                long freshYes = yes & groups[JOINS] & ~knownYes;
                long freshNo = no & groups[JOINS] & ~knownNo;
                for (int i = 0; i < 2 * MOST_SCHEMAS && (freshYes | freshNo) != 0; i++) {
                    int at = freshYes != 0 ? 4 * Long.numberOfTrailingZeros(freshYes)
                            : 4 * Long.numberOfTrailingZeros(freshNo) + 2;
                    freshNo &= freshYes != 0 ? -1L : freshNo - 1;
                    freshYes &= freshYes - 1;
                    yes |= follows[at];
                    no |= follows[at + 1];
                }
                if (((yes & (no | never)) | (no & always)) != 0) {
                    return false;
                }
                knownYes = yes;
                knownNo = no;
                yes |= drawnFrom(yes & groups[UNIONS], no | never);
                no |= drawnFrom(no & groups[MEETS], yes | always);
                grown = yes != knownYes || no != knownNo;
            }
            return true;
        }

        /** Of each choice one side of which is ruled out, the other side. */
        private long drawnFrom(long choices, long ruledOut) {
            long drawn = 0;
            long rest = choices;
            for (int i = 0; i < MOST_SCHEMAS && rest != 0; i++) {
                int s = Long.numberOfTrailingZeros(rest);
                rest &= rest - 1;
                drawn |= (ruledOut >> book.firsts[s] & 1) << book.seconds[s];
                drawn |= (ruledOut >> book.seconds[s] & 1) << book.firsts[s];
            }
            return drawn;
        }

        /** The unions that a value must be of, and of neither side of which it is seen to be. */
        private long openUnions(int kind) {
            return undecided(yes & groups[UNIONS], yes | alwayses[kind]);
        }

        /** The meets that a value must not be of, and of neither side of which it is seen not to be. */
        private long openMeets(int kind) {
            return undecided(no & groups[MEETS], no | nevers[kind]);
        }

        private long undecided(long choices, long decided) {
            long open = choices;
            long rest = choices;
            for (int i = 0; i < MOST_SCHEMAS && rest != 0; i++) {
                int s = Long.numberOfTrailingZeros(rest);
                rest &= rest - 1;
                open &= ~((decided >> book.firsts[s] & 1 | decided >> book.seconds[s] & 1) << s);
            }
            return open;
        }
    }

    /**
     * Finds the smallest value of one schema that is not of another one, by two ways in turns: up from
     * the leaves, and down from the question. Each is sure of its answer if it came to its end; what one
     * can't end within its bounds, the other one mostly can.
     */
    private static final class Search {
        private static final int TURNS = 3;
        private static final int[] ROWS = {512, 4096, 65536};
        private static final int[] PAIRS = {200000, 5000000, 200000000};
        private static final int[] ASKED = {100000, 2000000, 30000000};
        private static final int MOST_ROUNDS = 1000000;
        private static final int UNKNOWN = -1;

        private final Schemas book;
        private final Cone cone;
        private final Descent descent;
        private final Table items = new Table();
        private final Table parts = new Table();
        private final Table records = new Table();
        private final Table one = new Table();
        private final Table two = new Table();
        private final Table[] fields = {new Table(), new Table(), new Table(), new Table()};
        private final int[] answers = new int[MOST_SCHEMAS * (MOST_SCHEMAS + 1)];
        private int answersEdition = UNKNOWN;
        private int wanted;
        private int unwanted;
        private int best;
        private int pairs;
        private boolean changed;
        private boolean isSure;

        Search(Schemas book) {
            this.book = book;
            cone = new Cone(book);
            descent = new Descent(book);
        }

        /** The size of the smallest value of a schema and not of another one (-1: of any); 0 if there is none. */
        int smallest(int schema, int other) {
            if (!book.has(schema) || schema == other) {
                return 0;
            }
            if (answersEdition != book.edition) {
                Arrays.fill(answers, UNKNOWN);
                answersEdition = book.edition;
            }
            int place = schema * (MOST_SCHEMAS + 1) + other + 1;
            if (answers[place] == UNKNOWN) {
                wanted = schema;
                unwanted = other;
                best = Needs.ENDLESS;
                isSure = false;
                cone.prepare(schema, other);
                for (int turn = 0; turn < TURNS && !isSure; turn++) {
                    climb(ROWS[turn], PAIRS[turn]);
                    if (!isSure) {
                        descent.prepare();
                        best = descent.smallest(schema, other, best, ASKED[turn]);
                        isSure = descent.isSure;
                    }
                }
                answers[place] = best == Needs.ENDLESS ? 0 : best;
            }
            return answers[place];
        }

        /**
         * Values that the schemas can't tell apart count as one: all kinds of values that there are get built
         * up from the leaves, with the smallest size of each, until nothing new comes.
         */
        private void climb(int rows, int mostPairs) {
            isSure = true;
            changed = true;
            pairs = mostPairs;
            start(rows);
            addLeaves();
            for (int round = 0; round < MOST_ROUNDS && changed && isSure; round++) {
                changed = false;
                addLists();
                addRecords();
            }
        }

        private void start(int rows) {
            items.start(cone.rising, cone.falling, rows);
            parts.start(cone.rising, cone.falling, rows);
            records.start(cone.rising, cone.falling, rows);
            one.start(cone.rising, cone.falling, rows);
            two.start(cone.rising, cone.falling, rows);
            for (int label = 0; label < LABELS; label++) {
                fields[label].start(cone.rising, cone.falling, rows);
                fields[label].lower(cone.withoutLabel(label), 0);
            }
        }

        private void addLeaves() {
            add(cone.ofLeaf('z', 0), 1);
            add(cone.ofLeaf('b', 0), 1);
            for (int symbol = 0; symbol <= 9; symbol++) {
                add(cone.ofLeaf('s', symbol), 1);
            }
            for (int i = 0; i < cone.breaks(); i++) {
                add(cone.ofLeaf('n', cone.breakAt(i)), 1);
            }
        }

        /** Takes in a value by the schemas of its own kind; what is no smaller than an answer is left out. */
        private void add(long own, int size) {
            if (size >= best) {
                return;
            }
            long bits = cone.joinedUp(own);
            if (Cone.holds(bits, wanted) && !Cone.holds(bits, unwanted)) {
                best = size;
                return;
            }
            if (items.lower(cone.asItem(bits), size)) {
                changed |= parts.lower(cone.asPart(bits), size);
                isSure &= !parts.spilled;
                for (int label = 0; label < LABELS; label++) {
                    changed |= fields[label].lower(cone.atLabel(bits, label), size);
                    isSure &= !fields[label].spilled;
                }
            }
        }

        private void addLists() {
            Table shorter = one;
            Table longer = two;
            shorter.clear();
            shorter.lower(cone.reaching(0), 0);
            add(cone.taking(0), 1);
            // A length that no schema reaches still counts once: its lists are of none of them.
            for (int length = 1; length <= MOST_PARTS && cone.reaching(length - 1) != 0; length++) {
                multiply(shorter, parts, longer, cone.reaching(length));
                for (int i = 0; i < longer.count; i++) {
                    add(longer.keys[i] & cone.taking(length), above(longer.sizes[i]));
                }
                Table free = shorter;
                shorter = longer;
                longer = free;
            }
        }

        private void addRecords() {
            multiply(fields[0], fields[1], one, ~0L);
            multiply(one, fields[2], two, ~0L);
            int last = fields[3].count;
            for (int i = 0; i < two.count && isSure; i++) {
                pay(last);
                for (int k = 0; k < last; k++) {
                    long key = two.keys[i] & fields[3].keys[k];
                    int size = above(two.sizes[i] + fields[3].sizes[k]);
                    if (size < best && records.lower(key, size)) {
                        add(key, size);
                    }
                }
            }
        }

        private static int above(int size) {
            return Math.min(size + 1, MOST_SIZE);
        }

        private void pay(int price) {
            isSure &= price <= pairs;
            pairs -= Math.min(price, pairs);
        }

        /** What two tables have together, row by row, as far as it can be part of a smaller answer. */
        private void multiply(Table left, Table right, Table into, long mask) {
            into.clear();
            for (int i = 0; i < left.count && isSure; i++) {
                pay(right.count);
                for (int k = 0; k < right.count; k++) {
                    int size = Math.min(left.sizes[i] + right.sizes[k], MOST_SIZE);
                    if (above(size) < best) {
                        into.lower(left.keys[i] & right.keys[k] & mask, size);
                    }
                }
                isSure &= !into.spilled;
            }
        }
    }

    /** The steps by which a record is seen. */
    private static final class Lens {
        private final Values pool;
        private final char[] kinds = new char[MOST_STEPS];
        private final int[] firsts = new int[MOST_STEPS];
        private final int[] seconds = new int[MOST_STEPS];
        private final int[] trail = new int[MOST_STEPS + 1];
        private final int[] alone = {NONE, NONE, NONE, NONE};
        int count;

        Lens(Values pool) {
            this.pool = pool;
        }

        /** Whether there is such a step, its label a being one. */
        static boolean takes(char kind, int a, int b) {
            switch (kind) {
                case 'r':
                case 'n':
                    return isLabel(b) && a != b;
                case 's':
                    return b >= 0 && b <= 9;
                case 'a':
                case 'd':
                case 'w':
                    return true;
                default:
                    return false;
            }
        }

        /** The number of steps with this one, or -1 if there is no room. */
        int add(char kind, int a, int b) {
            if (count >= MOST_STEPS) {
                return NONE;
            }
            kinds[count] = kind;
            firsts[count] = a;
            seconds[count] = b;
            count++;
            return count;
        }

        /** The view, or -1 if a step does not fit. */
        int viewOf(int record) {
            trail[0] = pool.isRecord(record) ? record : NONE;
            for (int i = 0; i < count; i++) {
                trail[i + 1] = pool.isRecord(trail[i]) ? done(i, trail[i]) : NONE;
            }
            return trail[count];
        }

        /** The record that has this view, or -1 if a step does not fit, after a view was got from the old one. */
        int putBack(int view) {
            int now = view;
            for (int i = count - 1; i >= 0; i--) {
                now = pool.isRecord(now) ? undone(i, now) : NONE;
            }
            return pool.isRecord(now) ? now : NONE;
        }

        private int done(int step, int record) {
            int a = firsts[step];
            int b = seconds[step];
            int there = pool.at(record, a);
            switch (kinds[step]) {
                case 'r':
                    return renamed(record, a, b);
                case 'd':
                    return pool.labelled(record, a, NONE);
                case 'a':
                    return there >= 0 ? NONE : pool.labelled(record, a, b);
                case 'n':
                    return putIn(record, a, b);
                case 'w':
                    return there < 0 ? record : pool.labelled(record, a, listOf(there));
                default:
                    return swapped(record, a, b);
            }
        }

        private int undone(int step, int record) {
            int a = firsts[step];
            int b = seconds[step];
            int there = pool.at(record, a);
            switch (kinds[step]) {
                case 'r':
                    return renamed(record, b, a);
                case 'd':
                    return there >= 0 ? NONE : pool.labelled(record, a, pool.at(trail[step], a));
                case 'a':
                    return there == b ? pool.labelled(record, a, NONE) : NONE;
                case 'n':
                    return takenOut(record, a, b);
                case 'w':
                    return there < 0 ? record : unlisted(record, a, there);
                default:
                    return swapped(record, a, b);
            }
        }

        private int renamed(int record, int from, int to) {
            if (pool.at(record, to) >= 0) {
                return NONE;
            }
            int there = pool.at(record, from);
            return there < 0 ? record : pool.labelled(pool.labelled(record, from, NONE), to, there);
        }

        private int putIn(int record, int a, int b) {
            int inner = pool.at(record, b);
            if (!pool.isRecord(inner) || pool.at(inner, a) >= 0) {
                return NONE;
            }
            int there = pool.at(record, a);
            if (there < 0) {
                return record;
            }
            int fuller = pool.labelled(inner, a, there);
            return fuller < 0 ? NONE : pool.labelled(pool.labelled(record, a, NONE), b, fuller);
        }

        private int takenOut(int record, int a, int b) {
            int inner = pool.at(record, b);
            if (!pool.isRecord(inner) || pool.at(record, a) >= 0) {
                return NONE;
            }
            int there = pool.at(inner, a);
            if (there < 0) {
                return record;
            }
            int emptier = pool.labelled(inner, a, NONE);
            return pool.labelled(pool.labelled(record, b, emptier), a, there);
        }

        /** A list of one part, or -1 if that is too deep. */
        private int listOf(int part) {
            alone[0] = part;
            return pool.draft('l', 1, alone, 0);
        }

        private int unlisted(int record, int label, int there) {
            boolean fits = pool.isList(there) && pool.numbers[there] == 1;
            return fits ? pool.labelled(record, label, pool.at(there, 0)) : NONE;
        }

        private int swapped(int record, int label, int symbol) {
            int there = pool.at(record, label);
            if (there < 0 || pool.kinds[there] != 's') {
                return record;
            }
            int before = pool.numbers[there];
            if (before != symbol && before != 9 - symbol) {
                return record;
            }
            alone[0] = NONE;
            return pool.labelled(record, label, pool.draft('s', 9 - before, alone, 0));
        }
    }

    /** Merges two values that came from a first one. */
    private static final class Merger {
        private final Values pool;
        private final int[] rows = new int[(MOST_DEPTH + 1) * MOST_PARTS];
        int clashes;

        Merger(Values pool) {
            this.pool = pool;
        }

        int merged(int first, int one, int other) {
            clashes = 0;
            return mergedAt(first, one, other, 0);
        }

        /** What is merged, where -1 is nothing there. */
        private int mergedAt(int first, int one, int other, int depth) {
            if (one == other || first == other) {
                return one;
            }
            if (first == one) {
                return other;
            }
            boolean records = pool.isRecord(first) && pool.isRecord(one) && pool.isRecord(other);
            if (depth > MOST_DEPTH || !(records || areListsOfOneLength(first, one, other))) {
                clashes++;
                return one;
            }
            int from = depth * MOST_PARTS;
            for (int i = 0; i < MOST_PARTS; i++) {
                rows[from + i] = mergedAt(pool.at(first, i), pool.at(one, i), pool.at(other, i), depth + 1);
            }
            char kind = records ? 'o' : 'l';
            return pool.draft(kind, records ? Values.labelBits(rows, from) : pool.numbers[first], rows, from);
        }

        private boolean areListsOfOneLength(int first, int one, int other) {
            return pool.isList(first) && pool.isList(one) && pool.isList(other)
                    && pool.numbers[first] == pool.numbers[one] && pool.numbers[first] == pool.numbers[other];
        }
    }

    /** Finds a schema from samples. */
    private static final class Finder {
        private static final int LEVELS = MOST_DEPTH + 2;
        private static final int KINDS = 6;

        private final Values pool;
        private final Schemas book;
        private final int[] marks = new int[LEVELS * MOST_VALUES];
        private final int[] items = new int[LEVELS * LABELS];
        private final int[] found = new int[LEVELS * KINDS];

        Finder(Values pool, Schemas book) {
            this.pool = pool;
            this.book = book;
        }

        /** The schema for the samples, or -1, and nothing made, if there would be too many. */
        int found(int[] samples, int count) {
            int before = book.count;
            Arrays.fill(marks, 0, MOST_VALUES, 0);
            for (int i = 0; i < count && i < samples.length; i++) {
                mark(0, samples[i]);
            }
            int made = foundAt(0);
            if (made < 0) {
                book.cut(before);
            }
            return made;
        }

        private void mark(int level, int value) {
            if (level >= 0 && level < LEVELS && pool.has(value)) {
                marks[level * MOST_VALUES + value] = 1;
            }
        }

        private boolean isMarked(int level, int value, char kind) {
            return marks[level * MOST_VALUES + value] == 1 && pool.kinds[value] == kind;
        }

        private void clearLevel(int level) {
            Arrays.fill(marks, level * MOST_VALUES, (level + 1) * MOST_VALUES, 0);
        }

        private int foundAt(int level) {
            if (level + 1 >= LEVELS) {
                return NONE;
            }
            int made = 0;
            for (int i = 0; i < KINDS; i++) {
                char kind = kindAt(i);
                if (howMany(level, kind) > 0) {
                    int schema = foundFor(level, kind);
                    if (schema < 0) {
                        return NONE;
                    }
                    found[level * KINDS + made] = schema;
                    made++;
                }
            }
            return made == 0 ? book.add('0', 0, 0, 0) : joinedUp(level, made);
        }

        private static char kindAt(int index) {
            switch (index) {
                case 0:
                    return 'z';
                case 1:
                    return 'b';
                case 2:
                    return 'n';
                case 3:
                    return 's';
                case 4:
                    return 'l';
                default:
                    return 'o';
            }
        }

        private int howMany(int level, char kind) {
            int those = 0;
            for (int v = 0; v < pool.count; v++) {
                those += isMarked(level, v, kind) ? 1 : 0;
            }
            return those;
        }

        private int joinedUp(int level, int made) {
            int all = found[level * KINDS];
            for (int i = 1; i < made && all >= 0; i++) {
                all = book.add('u', all, found[level * KINDS + i], 0);
            }
            return all;
        }

        private int foundFor(int level, char kind) {
            switch (kind) {
                case 'n':
                    return book.add('n', lowest(level, kind), greatest(level, kind), 0);
                case 's':
                    return book.add('s', symbolBits(level), 0, 0);
                case 'l':
                    return listSchema(level);
                case 'o':
                    return recordSchema(level);
                default:
                    return book.add(kind, 0, 0, 0);
            }
        }

        private int lowest(int level, char kind) {
            int least = Integer.MAX_VALUE;
            for (int v = 0; v < pool.count; v++) {
                least = isMarked(level, v, kind) ? Math.min(least, pool.numbers[v]) : least;
            }
            return least;
        }

        private int greatest(int level, char kind) {
            int greatest = Integer.MIN_VALUE;
            for (int v = 0; v < pool.count; v++) {
                greatest = isMarked(level, v, kind) ? Math.max(greatest, pool.numbers[v]) : greatest;
            }
            return greatest;
        }

        private int symbolBits(int level) {
            int bits = 0;
            for (int v = 0; v < pool.count; v++) {
                bits |= isMarked(level, v, 's') ? 1 << pool.numbers[v] : 0;
            }
            return bits;
        }

        private int listSchema(int level) {
            clearLevel(level + 1);
            for (int v = 0; v < pool.count; v++) {
                for (int i = 0; i < MOST_PARTS && isMarked(level, v, 'l'); i++) {
                    mark(level + 1, pool.at(v, i));
                }
            }
            int least = lowest(level, 'l');
            int greatest = greatest(level, 'l');
            int item = foundAt(level + 1);
            return item < 0 ? NONE : book.add('l', item, least, greatest);
        }

        private int recordSchema(int level) {
            int all = howMany(level, 'o');
            int musts = 0;
            for (int label = 0; label < LABELS; label++) {
                int there = markAt(level, label);
                int item = there == 0 ? NONE : foundAt(level + 1);
                if (there > 0 && item < 0) {
                    return NONE;
                }
                items[level * LABELS + label] = item;
                musts |= there == all ? 1 << label : 0;
            }
            int made = book.add('o', 1, 0, 0);
            for (int label = 0; label < LABELS && made >= 0; label++) {
                int item = items[level * LABELS + label];
                if (item >= 0) {
                    book.tell(made, label, item, (musts >> label & 1) == 1);
                }
            }
            return made;
        }

        /** Marks what is at a label of the marked records, a level below; returns how many have it. */
        private int markAt(int level, int label) {
            clearLevel(level + 1);
            int there = 0;
            for (int v = 0; v < pool.count; v++) {
                if (isMarked(level, v, 'o') && pool.at(v, label) >= 0) {
                    mark(level + 1, pool.at(v, label));
                    there++;
                }
            }
            return there;
        }
    }
}
