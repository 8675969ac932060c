/** All that can be asked of an object without changing it, as a text. */
final class State {
    private State() {
    }

    static String of(Formwarden f) {
        StringBuilder all = new StringBuilder();
        all.append(f.values()).append(' ').append(f.schemas()).append(' ').append(f.conflicts()).append(';');
        for (int v = 0; v < f.values(); v++) {
            int value = v;
            all.append(f.kindOf(v)).append(f.numberOf(v)).append(' ').append(f.size(v));
            for (int i = 0; i < 4; i++) {
                int index = i;
                all.append(',').append(Check.answer(() -> f.part(value, index)));
            }
            all.append(':');
            for (int s = 0; s < f.schemas(); s++) {
                all.append(f.isOf(v, s) ? '1' : '0');
            }
            all.append(';');
        }
        for (int i = 0; i < 3; i++) {
            int index = i;
            all.append(Check.answer(() -> f.faultAt(index))).append(Check.answer(() -> f.pathAt(index))).append(' ');
        }
        for (int s = 0; s < f.schemas(); s++) {
            all.append(f.fits(s)).append(f.isEmpty(s)).append(' ');
        }
        return all.toString();
    }

    /** That a call throws this, and changes nothing. */
    static void raises(String what, Formwarden f, Class<? extends RuntimeException> want, Check.Call call) {
        String before = of(f);
        Check.raises(what, want, call);
        Check.due(what + ": changes nothing", of(f).equals(before), true);
    }
}
