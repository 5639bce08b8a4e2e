/** What tests of VeneerRows have in common: short ways to build a story and to read what it shows. */
abstract class Story {
    static final int MIN = Integer.MIN_VALUE, MAX = Integer.MAX_VALUE;
    static final int NONE = VeneerRows.NONE, UNKNOWN = VeneerRows.UNKNOWN;
    static final int OUTSIDE = VeneerRows.OUTSIDE, ROOM = VeneerRows.ROOM;
    static final Due due = new Due();

    static VeneerRows strict() {
        return new VeneerRows(1);
    }

    static String said(VeneerRows x) {
        StringBuilder s = new StringBuilder();
        int many = x.count(5);
        for (int i = 0; i < many; i++) {
            s.append((char) x.out(i));
        }
        return s.toString();
    }

    /** The faults told, each as kind/number/second. */
    static String faults(VeneerRows x) {
        StringBuilder s = new StringBuilder();
        int many = x.count(4);
        for (int i = 0; i < many; i++) {
            s.append(i == 0 ? "" : " ").append(x.fault(i, 0)).append('/').append(x.fault(i, 1)).append('/')
                .append(x.fault(i, 2));
        }
        return s.toString();
    }

    static void letters(VeneerRows x, String s) {
        for (int i = 0; i < s.length(); i++) {
            x.letter(s.charAt(i));
        }
    }

    static int textOf(VeneerRows x, String s) {
        letters(x, s);
        return x.text();
    }

    /** A routine of acts {op, a, b}. */
    static int routineOf(VeneerRows x, int[]... acts) {
        int r = x.routine();
        for (int[] a : acts) {
            x.act(r, a[0], a.length > 1 ? a[1] : 0, a.length > 2 ? a[2] : 0);
        }
        return r;
    }

    static int[] a(int... act) {
        return act;
    }

    static void row(VeneerRows x, int thing, int name, int... values) {
        for (int i = 0; i < values.length; i++) {
            x.value(thing, name, i, values[i]);
        }
    }

    static String rowOf(VeneerRows x, int thing, int name) {
        StringBuilder s = new StringBuilder();
        int many = x.provides(thing, name);
        for (int i = 0; i < many; i++) {
            s.append(i == 0 ? "" : " ").append(x.read(thing, name, i));
        }
        return s.toString();
    }

    static String childrenOf(VeneerRows x, int thing) {
        StringBuilder s = new StringBuilder();
        int many = x.tree(thing, 3);
        int child = x.tree(thing, 1);
        for (int k = 0; k < many; k++) {
            s.append(k == 0 ? "" : " ").append(child);
            child = x.tree(child, 2);
        }
        return s.toString();
    }

    static void objects(VeneerRows x, int many) {
        for (int k = 0; k < many; k++) {
            x.object(0, 0);
        }
    }
}
