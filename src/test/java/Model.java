import java.util.ArrayList;
import java.util.Arrays;
import java.util.HashMap;
import java.util.List;
import java.util.Map;
import java.util.NoSuchElementException;

/** The document told again, in the plainest way and without regard to time: what Formwarden is held against. */
final class Model {
    /** A value; parts has null where a record has nothing. */
    record Val(char kind, int number, List<Val> parts) {
        int size() {
            int all = 1;
            for (Val p : parts) {
                all += p == null ? 0 : p.size();
            }
            return all;
        }

        int depth() {
            int most = 0;
            for (Val p : parts) {
                most = Math.max(most, p == null ? 0 : p.depth());
            }
            return most + 1;
        }

        Val at(int label) {
            return parts.get(label);
        }
    }

    static final class Sch {
        char kind;
        int a;
        int b;
        int c;
        int[] items = {-1, -1, -1, -1};
        boolean[] musts = new boolean[4];
    }

    record Step(char kind, int a, int b) {
    }

    record Fault(char letter, int path) {
    }

    /** Thrown where this model would take too long. */
    static final class TooMuch extends RuntimeException {
        private static final long serialVersionUID = 1L;
    }

    final List<Val> values = new ArrayList<>();
    final List<Sch> schemas = new ArrayList<>();
    final int[] names = {-1, -1, -1, -1, -1, -1};
    List<Fault> found = new ArrayList<>();
    final List<Step> steps = new ArrayList<>();
    final List<Val> samples = new ArrayList<>();
    int conflicts;
    private int work;

    // ---- values

    private void needValue(int v) {
        if (v < 0 || v >= values.size()) {
            throw new IndexOutOfBoundsException();
        }
    }

    private void needSchema(int s) {
        if (s < 0 || s >= schemas.size()) {
            throw new IndexOutOfBoundsException();
        }
    }

    private static void needLabel(int l) {
        if (l < 0 || l > 3) {
            throw new IndexOutOfBoundsException();
        }
    }

    private void needShallow(Val v) {
        if (v.depth() > 6) {
            throw new UnsupportedOperationException();
        }
    }

    private void fresh(Val v, List<Val> into) {
        if (values.contains(v) || into.contains(v)) {
            return;
        }
        for (Val p : v.parts) {
            if (p != null) {
                fresh(p, into);
            }
        }
        into.add(v);
    }

    private int keep(Val v) {
        List<Val> made = new ArrayList<>();
        fresh(v, made);
        if (values.size() + made.size() > 200) {
            throw new IllegalStateException();
        }
        values.addAll(made);
        return values.indexOf(v);
    }

    int value(char kind, int number) {
        boolean ok = kind == 'z' || (kind == 'b' && (number == 0 || number == 1))
                || (kind == 'n' && Math.abs((long) number) <= 99) || (kind == 's' && number >= 0 && number < 10);
        if (!ok) {
            throw new IllegalArgumentException();
        }
        return keep(new Val(kind, kind == 'z' ? 0 : number, List.of()));
    }

    int list(int... told) {
        for (int v : told) {
            if (v != -1) {
                needValue(v);
            }
        }
        List<Val> parts = new ArrayList<>();
        boolean over = false;
        for (int v : told) {
            if (v == -1) {
                over = true;
            } else if (over) {
                throw new IllegalArgumentException();
            } else {
                parts.add(values.get(v));
            }
        }
        Val made = new Val('l', parts.size(), parts);
        needShallow(made);
        return keep(made);
    }

    private static Val rec(Val... parts) {
        int bits = 0;
        for (int i = 0; i < 4; i++) {
            bits |= parts[i] == null ? 0 : 1 << i;
        }
        return new Val('o', bits, Arrays.asList(parts));
    }

    private static Val with(Val r, int label, Val v) {
        Val[] parts = r.parts.toArray(new Val[0]);
        parts[label] = v;
        return rec(parts);
    }

    int record() {
        return keep(rec(null, null, null, null));
    }

    int with(int r, int label, int v) {
        needValue(r);
        if (v != -1) {
            needValue(v);
        }
        needLabel(label);
        if (values.get(r).kind != 'o') {
            throw new IllegalArgumentException();
        }
        Val made = with(values.get(r), label, v == -1 ? null : values.get(v));
        needShallow(made);
        return keep(made);
    }

    char kindOf(int v) {
        needValue(v);
        return values.get(v).kind;
    }

    int numberOf(int v) {
        needValue(v);
        return values.get(v).number;
    }

    int part(int v, int index) {
        needValue(v);
        List<Val> parts = values.get(v).parts;
        if (index < 0 || index >= parts.size() || parts.get(index) == null) {
            throw new NoSuchElementException();
        }
        return values.indexOf(parts.get(index));
    }

    int size(int v) {
        needValue(v);
        return values.get(v).size();
    }

    // ---- schemas

    int schema(char kind, int a, int b, int c) {
        boolean ok;
        switch (kind) {
            case 'n' -> ok = a >= -99 && b <= 99 && a <= b;
            case 's' -> ok = a >= 0 && a <= 1023;
            case 'l' -> ok = b >= 0 && c <= 4 && b <= c;
            case 'r' -> ok = a >= 0 && a <= 5;
            case 'o' -> ok = a == 0 || a == 1;
            default -> ok = "a0zbu&!".indexOf(kind) >= 0;
        }
        if (!ok) {
            throw new IllegalArgumentException();
        }
        if ("lu&!".indexOf(kind) >= 0) {
            needSchema(a);
        }
        if ("u&".indexOf(kind) >= 0) {
            needSchema(b);
        }
        return newSchema(kind, a, b, c);
    }

    private int newSchema(char kind, int a, int b, int c) {
        if (schemas.size() >= 50) {
            throw new IllegalStateException();
        }
        Sch s = new Sch();
        s.kind = kind;
        s.a = a;
        s.b = b;
        s.c = c;
        schemas.add(s);
        return schemas.size() - 1;
    }

    boolean field(int s, int label, int item, boolean must) {
        needSchema(s);
        needLabel(label);
        if (item != -1) {
            needSchema(item);
        }
        if (schemas.get(s).kind != 'o' || item >= s) {
            throw new IllegalArgumentException();
        }
        boolean before = schemas.get(s).items[label] != -1;
        schemas.get(s).items[label] = item;
        schemas.get(s).musts[label] = must;
        return before;
    }

    /** Whether the name is met from the schema, by schemas that tell of the same value. */
    private boolean meets(int s, int name) {
        Sch x = schemas.get(s);
        switch (x.kind) {
            case 'u', '&':
                return meets(x.a, name) || meets(x.b, name);
            case '!':
                return meets(x.a, name);
            case 'r':
                return x.a == name || (names[x.a] >= 0 && meets(names[x.a], name));
            default:
                return false;
        }
    }

    int bind(int name, int s) {
        if (name < 0 || name > 5) {
            throw new IndexOutOfBoundsException();
        }
        needSchema(s);
        if (meets(s, name)) {
            throw new UnsupportedOperationException();
        }
        int before = names[name];
        names[name] = s;
        return before;
    }

    boolean isOf(int v, int s) {
        needValue(v);
        needSchema(s);
        return is(values.get(v), s);
    }

    boolean is(Val v, int s) {
        if (s < 0) {
            return false;
        }
        Sch x = schemas.get(s);
        switch (x.kind) {
            case 'a':
                return true;
            case '0':
                return false;
            case 'u':
                return is(v, x.a) || is(v, x.b);
            case '&':
                return is(v, x.a) && is(v, x.b);
            case '!':
                return !is(v, x.a);
            case 'r':
                return is(v, names[x.a]);
            default:
                break;
        }
        if (v.kind != x.kind) {
            return false;
        }
        switch (x.kind) {
            case 'n':
                return x.a <= v.number && v.number <= x.b;
            case 's':
                return (x.a & 1 << v.number) != 0;
            case 'l':
                return x.b <= v.number && v.number <= x.c && v.parts.stream().allMatch(p -> is(p, x.a));
            case 'o':
                for (int i = 0; i < 4; i++) {
                    if (!fitsLabel(x, i, v.at(i))) {
                        return false;
                    }
                }
                return true;
            default:
                return true;
        }
    }

    private boolean fitsLabel(Sch x, int label, Val there) {
        if (there == null) {
            return x.items[label] < 0 || !x.musts[label];
        }
        return x.items[label] < 0 ? x.a == 0 : is(there, x.items[label]);
    }

    int faults(int v, int s) {
        needValue(v);
        needSchema(s);
        work = 0;
        found = lacks(values.get(v), s, 0);
        return found.size();
    }

    private List<Fault> lacks(Val v, int s, int path) {
        List<Fault> out = new ArrayList<>();
        Sch x = s < 0 ? null : schemas.get(s);
        if (x == null || x.kind == '0') {
            out.add(new Fault('0', path));
        } else if (x.kind == 'u') {
            List<Fault> one = lacks(v, x.a, path);
            List<Fault> two = lacks(v, x.b, path);
            return two.size() < one.size() ? two : one;
        } else if (x.kind == '&') {
            out.addAll(lacks(v, x.a, path));
            out.addAll(lacks(v, x.b, path));
        } else if (x.kind == '!') {
            if (lacks(v, x.a, path).isEmpty()) {
                out.add(new Fault('!', path));
            }
        } else if (x.kind == 'r') {
            return lacks(v, names[x.a], path);
        } else if (x.kind != 'a' && x.kind != v.kind) {
            out.add(new Fault('k', path));
        } else {
            lacksInside(v, x, path, out);
        }
        work += out.size() + 1;
        if (work > 2000000) {
            throw new TooMuch();
        }
        return out;
    }

    private void lacksInside(Val v, Sch x, int path, List<Fault> out) {
        if (x.kind == 'n' && (v.number < x.a || v.number > x.b)) {
            out.add(new Fault('r', path));
        }
        if (x.kind == 's' && (x.a >> v.number) % 2 == 0) {
            out.add(new Fault('m', path));
        }
        if (x.kind == 'l') {
            if (v.number < x.b || v.number > x.c) {
                out.add(new Fault('g', path));
            }
            for (int i = 0; i < v.number; i++) {
                out.addAll(lacks(v.at(i), x.a, path * 10 + 5 + i));
            }
        }
        for (int i = 0; i < 4 && x.kind == 'o'; i++) {
            int there = path * 10 + 1 + i;
            if (v.at(i) == null) {
                if (x.items[i] >= 0 && x.musts[i]) {
                    out.add(new Fault('q', there));
                }
            } else if (x.items[i] >= 0) {
                out.addAll(lacks(v.at(i), x.items[i], there));
            } else if (x.a == 1) {
                out.add(new Fault('x', there));
            }
        }
    }

    private Fault fault(int index) {
        if (index < 0 || index >= found.size()) {
            throw new IndexOutOfBoundsException();
        }
        return found.get(index);
    }

    char faultAt(int index) {
        return fault(index).letter;
    }

    int pathAt(int index) {
        return fault(index).path;
    }

    // ---- inclusion: each kind of value by all schemas that it is of, with the smallest size

    private long typeOfLeaf(char kind, int number) {
        return close(kind, s -> is(new Val(kind, number, List.of()), s));
    }

    interface Test {
        boolean has(int schema);
    }

    /** The bits of all schemas, where own tells of those of the kind. */
    private long close(char kind, Test own) {
        long bits = 0;
        for (int s = 0; s < schemas.size(); s++) {
            bits |= holds(kind, own, s) ? 1L << s : 0;
        }
        return bits;
    }

    private boolean holds(char kind, Test own, int s) {
        if (s < 0) {
            return false;
        }
        Sch x = schemas.get(s);
        switch (x.kind) {
            case 'a':
                return true;
            case 'u':
                return holds(kind, own, x.a) || holds(kind, own, x.b);
            case '&':
                return holds(kind, own, x.a) && holds(kind, own, x.b);
            case '!':
                return !holds(kind, own, x.a);
            case 'r':
                return holds(kind, own, names[x.a]);
            default:
                return x.kind == kind && own.has(s);
        }
    }

    /** All types with their smallest sizes; slow is by trying all combinations of parts. */
    Map<Long, Integer> types(boolean slow) {
        work = 0;
        Map<Long, Integer> types = new HashMap<>();
        lower(types, typeOfLeaf('z', 0), 1);
        lower(types, typeOfLeaf('b', 0), 1);
        lower(types, typeOfLeaf('b', 1), 1);
        for (int i = -99; i <= 99; i++) {
            lower(types, typeOfLeaf('n', i), 1);
        }
        for (int i = 0; i < 10; i++) {
            lower(types, typeOfLeaf('s', i), 1);
        }
        Map<Long, Integer> before = null;
        while (!types.equals(before)) {
            before = new HashMap<>(types);
            for (int length = 0; length <= 4; length++) {
                if (slow) {
                    tryLists(before, types, length, new long[length], 0, 1);
                } else {
                    projectLists(before, types, length);
                }
            }
            if (slow) {
                tryRecords(before, types, new long[4], 0, 1);
            } else {
                projectRecords(before, types);
            }
        }
        return types;
    }

    private void lower(Map<Long, Integer> into, long bits, int size) {
        into.merge(bits, Math.min(size, 1000), Math::min);
        if (work++ > 3000000) {
            throw new TooMuch();
        }
    }

    private void tryLists(Map<Long, Integer> from, Map<Long, Integer> into, int length, long[] parts, int at,
            int size) {
        if (at == length) {
            lower(into, close('l', s -> {
                Sch x = schemas.get(s);
                boolean all = x.b <= length && length <= x.c;
                for (long p : parts) {
                    all &= (p >> x.a & 1) == 1;
                }
                return all;
            }), size);
            return;
        }
        for (Map.Entry<Long, Integer> e : from.entrySet()) {
            parts[at] = e.getKey();
            tryLists(from, into, length, parts, at + 1, size + e.getValue());
        }
    }

    /** Here -1 stands for nothing at a label; no type has all 64 bits. */
    private void tryRecords(Map<Long, Integer> from, Map<Long, Integer> into, long[] parts, int at, int size) {
        if (at == 4) {
            lower(into, close('o', s -> {
                boolean all = true;
                for (int i = 0; i < 4; i++) {
                    all &= atLabel(s, i, parts[i]);
                }
                return all;
            }), size);
            return;
        }
        parts[at] = -1;
        tryRecords(from, into, parts, at + 1, size);
        for (Map.Entry<Long, Integer> e : from.entrySet()) {
            parts[at] = e.getKey();
            tryRecords(from, into, parts, at + 1, size + e.getValue());
        }
    }

    private boolean atLabel(int s, int label, long part) {
        Sch x = schemas.get(s);
        if (x.items[label] < 0) {
            return part == -1 || x.a == 0;
        }
        return part == -1 ? !x.musts[label] : (part >> x.items[label] & 1) == 1;
    }

    private Map<Long, Integer> product(Map<Long, Integer> one, Map<Long, Integer> two) {
        Map<Long, Integer> all = new HashMap<>();
        for (Map.Entry<Long, Integer> e : one.entrySet()) {
            for (Map.Entry<Long, Integer> f : two.entrySet()) {
                lower(all, e.getKey() & f.getKey(), e.getValue() + f.getValue());
            }
        }
        return all;
    }

    private void projectLists(Map<Long, Integer> from, Map<Long, Integer> into, int length) {
        Map<Long, Integer> all = new HashMap<>();
        all.put(-1L, 1);
        Map<Long, Integer> part = new HashMap<>();
        for (Map.Entry<Long, Integer> e : from.entrySet()) {
            long bits = 0;
            for (int s = 0; s < schemas.size(); s++) {
                boolean in = schemas.get(s).kind == 'l' && (e.getKey() >> schemas.get(s).a & 1) == 1;
                bits |= in ? 1L << s : 0;
            }
            lower(part, bits, e.getValue());
        }
        for (int i = 0; i < length; i++) {
            all = product(all, part);
        }
        for (Map.Entry<Long, Integer> e : all.entrySet()) {
            lower(into, close('l', s -> schemas.get(s).b <= length && length <= schemas.get(s).c
                    && (e.getKey() >> s & 1) == 1), e.getValue());
        }
    }

    private void projectRecords(Map<Long, Integer> from, Map<Long, Integer> into) {
        Map<Long, Integer> all = new HashMap<>();
        all.put(-1L, 1);
        for (int label = 0; label < 4; label++) {
            Map<Long, Integer> here = new HashMap<>();
            lower(here, labelBits(label, -1), 0);
            for (Map.Entry<Long, Integer> e : from.entrySet()) {
                lower(here, labelBits(label, e.getKey()), e.getValue());
            }
            all = product(all, here);
        }
        for (Map.Entry<Long, Integer> e : all.entrySet()) {
            lower(into, close('o', s -> (e.getKey() >> s & 1) == 1), e.getValue());
        }
    }

    private long labelBits(int label, long part) {
        long bits = 0;
        for (int s = 0; s < schemas.size(); s++) {
            bits |= schemas.get(s).kind == 'o' && atLabel(s, label, part) ? 1L << s : 0;
        }
        return bits;
    }

    /** The smallest size of a value of the schema and not of the other one, -1 for none; 0 if there is none. */
    int smallest(Map<Long, Integer> types, int s, int other) {
        int best = 0;
        for (Map.Entry<Long, Integer> e : types.entrySet()) {
            boolean is = (e.getKey() >> s & 1) == 1 && (other < 0 || (e.getKey() >> other & 1) == 0);
            if (is && (best == 0 || e.getValue() < best)) {
                best = e.getValue();
            }
        }
        return best;
    }

    boolean isEmpty(int s) {
        needSchema(s);
        return smallest(types(false), s, -1) == 0;
    }

    boolean isWithin(int s, int other) {
        needSchema(s);
        needSchema(other);
        return smallest(types(false), s, other) == 0;
    }

    int gap(int s, int other) {
        needSchema(s);
        needSchema(other);
        int gap = smallest(types(false), s, other);
        if (gap == 0) {
            throw new NoSuchElementException();
        }
        return gap;
    }

    int least(int s) {
        needSchema(s);
        int least = smallest(types(false), s, -1);
        if (least == 0) {
            throw new NoSuchElementException();
        }
        return least;
    }

    long gaps(int s) {
        needSchema(s);
        Map<Long, Integer> types = types(false);
        long sum = 0;
        for (int other = 0; other < schemas.size(); other++) {
            sum += smallest(types, s, other);
        }
        return sum;
    }

    boolean isBorneOut(int s, int other) {
        needSchema(s);
        needSchema(other);
        return true;
    }

    // ---- views

    int step(char kind, int a, int b) {
        boolean ok = "rdanws".indexOf(kind) >= 0 && a >= 0 && a < 4;
        if ("rn".indexOf(kind) >= 0) {
            ok &= b >= 0 && b < 4 && a != b;
        }
        if (kind == 's') {
            ok &= b >= 0 && b < 10;
        }
        if (!ok) {
            throw new IllegalArgumentException();
        }
        if (kind == 'a') {
            needValue(b);
        }
        if (steps.size() == 8) {
            throw new IllegalStateException();
        }
        steps.add(new Step(kind, a, b));
        return steps.size();
    }

    int clearSteps() {
        int before = steps.size();
        steps.clear();
        return before;
    }

    private static void need(boolean fit) {
        if (!fit) {
            throw new UnsupportedOperationException();
        }
    }

    private Val move(Val r, int from, int to) {
        need(r.at(to) == null);
        return with(with(r, from, null), to, r.at(from));
    }

    private Val swap(Val r, int label, int symbol) {
        Val there = r.at(label);
        if (there != null && there.kind == 's' && (there.number == symbol || there.number == 9 - symbol)) {
            return with(r, label, new Val('s', there.number == symbol ? 9 - symbol : symbol, List.of()));
        }
        return r;
    }

    private Val go(Step t, Val r) {
        Val there = r.at(t.a);
        switch (t.kind) {
            case 'r':
                return move(r, t.a, t.b);
            case 'd':
                return with(r, t.a, null);
            case 'a':
                need(there == null);
                return with(r, t.a, values.get(t.b));
            case 'n':
                need(r.at(t.b) != null && r.at(t.b).kind == 'o' && r.at(t.b).at(t.a) == null);
                return with(with(r, t.b, with(r.at(t.b), t.a, there)), t.a, null);
            case 'w':
                return there == null ? r : with(r, t.a, new Val('l', 1, List.of(there)));
            default:
                return swap(r, t.a, t.b);
        }
    }

    private Val undo(Step t, Val r, Val ahead) {
        Val there = r.at(t.a);
        switch (t.kind) {
            case 'r':
                return move(r, t.b, t.a);
            case 'd':
                need(there == null);
                return with(r, t.a, ahead.at(t.a));
            case 'a':
                need(values.get(t.b).equals(there));
                return with(r, t.a, null);
            case 'n':
                need(there == null && r.at(t.b) != null && r.at(t.b).kind == 'o');
                return with(with(r, t.a, r.at(t.b).at(t.a)), t.b, with(r.at(t.b), t.a, null));
            case 'w':
                need(there == null || (there.kind == 'l' && there.number == 1));
                return there == null ? r : with(r, t.a, there.at(0));
            default:
                return swap(r, t.a, t.b);
        }
    }

    private List<Val> trail(Val r) {
        need(r.kind == 'o');
        List<Val> all = new ArrayList<>(List.of(r));
        for (Step t : steps) {
            Val next = go(t, all.get(all.size() - 1));
            needShallow(next);
            all.add(next);
        }
        return all;
    }

    int get(int r) {
        needValue(r);
        return keep(trail(values.get(r)).get(steps.size()));
    }

    int put(int r, int view) {
        needValue(r);
        needValue(view);
        List<Val> trail = trail(values.get(r));
        Val now = values.get(view);
        need(now.kind == 'o');
        for (int i = steps.size() - 1; i >= 0; i--) {
            now = undo(steps.get(i), now, trail.get(i));
            needShallow(now);
        }
        return keep(now);
    }

    // ---- merging

    private int clashes;

    int merge(int first, int one, int other) {
        needValue(first);
        needValue(one);
        needValue(other);
        clashes = 0;
        int made = keep(merged(values.get(first), values.get(one), values.get(other)));
        conflicts = clashes;
        return made;
    }

    private static boolean same(Val one, Val other) {
        return one == null ? other == null : one.equals(other);
    }

    private Val merged(Val first, Val one, Val other) {
        if (same(one, other)) {
            return one;
        }
        if (same(one, first)) {
            return other;
        }
        if (same(other, first)) {
            return one;
        }
        boolean values = first != null && one != null && other != null;
        boolean kinds = values && first.kind == one.kind && first.kind == other.kind;
        boolean records = kinds && first.kind == 'o';
        boolean lists = kinds && first.kind == 'l' && first.number == one.number && first.number == other.number;
        if (!records && !lists) {
            clashes++;
            return one;
        }
        List<Val> parts = new ArrayList<>();
        for (int i = 0; i < first.parts.size(); i++) {
            parts.add(merged(first.at(i), one.at(i), other.at(i)));
        }
        return records ? rec(parts.toArray(new Val[0])) : new Val('l', parts.size(), parts);
    }

    // ---- samples

    int sample(int v) {
        needValue(v);
        if (samples.size() == 8) {
            throw new IllegalStateException();
        }
        samples.add(values.get(v));
        return samples.size();
    }

    int clearSamples() {
        int before = samples.size();
        samples.clear();
        return before;
    }

    int infer() {
        int before = schemas.size();
        try {
            return inferred(samples);
        } catch (IllegalStateException e) {
            while (schemas.size() > before) {
                schemas.remove(before);
            }
            throw e;
        }
    }

    private int inferred(List<Val> all) {
        if (all.isEmpty()) {
            return newSchema('0', 0, 0, 0);
        }
        List<Integer> made = new ArrayList<>();
        for (char kind : "zbnslo".toCharArray()) {
            List<Val> those = all.stream().filter(v -> v.kind == kind).toList();
            if (!those.isEmpty()) {
                made.add(inferredOf(kind, those));
            }
        }
        int joined = made.get(0);
        for (int i = 1; i < made.size(); i++) {
            joined = newSchema('u', joined, made.get(i), 0);
        }
        return joined;
    }

    private int inferredOf(char kind, List<Val> those) {
        int least = those.stream().mapToInt(v -> v.number).min().getAsInt();
        int most = those.stream().mapToInt(v -> v.number).max().getAsInt();
        if (kind == 'n') {
            return newSchema('n', least, most, 0);
        }
        if (kind == 's') {
            return newSchema('s', those.stream().mapToInt(v -> 1 << v.number).reduce(0, (x, y) -> x | y), 0, 0);
        }
        if (kind == 'l') {
            return newSchema('l', inferred(those.stream().flatMap(v -> v.parts.stream()).toList()), least, most);
        }
        if (kind != 'o') {
            return newSchema(kind, 0, 0, 0);
        }
        int[] items = {-1, -1, -1, -1};
        boolean[] musts = new boolean[4];
        for (int i = 0; i < 4; i++) {
            int label = i;
            List<Val> there = those.stream().map(v -> v.at(label)).filter(v -> v != null).toList();
            if (!there.isEmpty()) {
                items[i] = inferred(there);
                musts[i] = there.size() == those.size();
            }
        }
        int made = newSchema('o', 1, 0, 0);
        schemas.get(made).items = items;
        schemas.get(made).musts = musts;
        return made;
    }

    boolean fits(int s) {
        needSchema(s);
        return samples.stream().allMatch(v -> is(v, s));
    }

    float share(int s) {
        needSchema(s);
        if (values.isEmpty()) {
            throw new ArithmeticException();
        }
        long those = values.stream().filter(v -> is(v, s)).count();
        return (float) those / (float) values.size();
    }

    double meanSize() {
        if (values.isEmpty()) {
            throw new ArithmeticException();
        }
        return (double) values.stream().mapToInt(Val::size).sum() / (double) values.size();
    }
}
