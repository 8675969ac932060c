/** Schemas that are told in one line. */
final class Told {
    private Told() {
    }

    /** Makes schemas: a kind with its numbers, for records 1 or 0 and then labels with ! or ? and an item, or = with a name and a schema. */
    static Formwarden schemas(String all) {
        Formwarden f = new Formwarden();
        for (String one : all.split(" ")) {
            char kind = one.charAt(0);
            String[] told = one.substring(1).split(",");
            int[] n = new int[3];
            for (int i = 0; i < told.length && kind != 'o' && !told[i].isEmpty(); i++) {
                n[i] = Integer.parseInt(told[i]);
            }
            if (kind == '=') {
                f.bind(n[0], n[1]);
                continue;
            }
            int s = f.schema(kind, kind == 'o' ? Integer.parseInt(told[0]) : n[0], n[1], n[2]);
            for (int i = 1; i < told.length && kind == 'o'; i++) {
                f.field(s, told[i].charAt(0) - '0', Integer.parseInt(told[i].substring(2)), told[i].charAt(1) == '!');
            }
        }
        return f;
    }
}
