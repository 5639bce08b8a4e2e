import java.util.ArrayList;
import java.util.LinkedHashSet;
import java.util.List;
import java.util.Map;
import java.util.TreeMap;

/**
 * The document once more, written with the Java library and without regard to room or speed, to compare
 * VeneerRows with in long runs of calls.
 */
final class Model {
    private static final int NONE = -1, UNKNOWN = -2, OUTSIDE = -3, ROOM = -4;

    private static final class Thing {
        boolean isClass;
        boolean free;
        Thing first;
        Thing second;
        List<Thing> pool = new ArrayList<>();
        Map<Integer, List<Integer>> rows = new TreeMap<>();
        Thing parent;
        List<Thing> children = new ArrayList<>();
        String text;
        boolean proper;

        LinkedHashSet<Thing> line() {
            LinkedHashSet<Thing> line = new LinkedHashSet<>();
            if (isClass) {
                line.add(this);
            }
            if (first != null) {
                line.addAll(first.line());
            }
            if (second != null) {
                line.addAll(second.line());
            }
            return line;
        }

        void come() {
            rows.clear();
            List<Integer> all = new ArrayList<>();
            for (Thing c : line()) {
                c.rows.forEach((name, row) -> rows.putIfAbsent(name, new ArrayList<>(row)));
                all.addAll(c.rows.getOrDefault(0, List.of()));
            }
            if (!all.isEmpty()) {
                rows.put(0, new ArrayList<>(all.subList(0, Math.min(4, all.size()))));
            }
        }

        void leave() {
            if (parent != null) {
                parent.children.remove(this);
            }
            parent = null;
        }
    }

    /** What ends a routine: the result it had. */
    private static final class Frame {
        int result;
        boolean ended;
    }

    private final boolean strict;
    private final List<Thing> things = new ArrayList<>();
    private final List<String> texts = new ArrayList<>();
    private final List<List<int[]>> routines = new ArrayList<>();
    private final List<int[]> arrays = new ArrayList<>();
    private final List<int[]> faults = new ArrayList<>();
    private String draft = "";
    private String out = "";
    private int acts;
    private boolean spent;
    private int depth;

    Model(int strict) {
        this.strict = strict != 0;
    }

    // ---- what is built

    int letter(int c) {
        if (c < 32 || c > 126) return OUTSIDE;
        if (draft.length() == 20) return ROOM;
        draft += (char) c;
        return draft.length();
    }

    int text() {
        if (texts.size() == 20) return ROOM;
        texts.add(draft);
        draft = "";
        return 100 + texts.size();
    }

    int routine() {
        if (routines.size() == 20) return ROOM;
        routines.add(new ArrayList<>());
        return 200 + routines.size();
    }

    int act(int routine, int op, int a, int b) {
        if (meta(routine) != 4) return UNKNOWN;
        if (op < 0 || op > 14) return OUTSIDE;
        List<int[]> r = routines.get(routine - 201);
        if (r.size() == 8) return ROOM;
        r.add(new int[] {op, a, b});
        return r.size();
    }

    private boolean wrongParent(int v) {
        return v != 0 && meta(v) != 1;
    }

    private Thing add(boolean isClass, Thing first, Thing second, boolean free) {
        Thing t = new Thing();
        t.isClass = isClass;
        t.first = first;
        t.second = second;
        t.free = free;
        things.add(t);
        if (!isClass) {
            t.come();
        }
        return t;
    }

    int group(int first, int second, int pool) {
        if (wrongParent(first) || wrongParent(second)) return UNKNOWN;
        if (pool < 0 || pool > 6) return OUTSIDE;
        if (things.size() + 1 + pool > 40) return ROOM;
        Thing c = add(true, thing(first), thing(second), false);
        int number = things.size();
        for (int k = 0; k < pool; k++) {
            c.pool.add(add(false, c, null, true));
        }
        return number;
    }

    int object(int first, int second) {
        if (wrongParent(first) || wrongParent(second)) return UNKNOWN;
        if (things.size() == 40) return ROOM;
        add(false, thing(first), thing(second), false);
        return things.size();
    }

    int value(int v, int name, int i, int w) {
        Thing t = thing(v);
        if (t == null) return UNKNOWN;
        if (name < 0 || name > 11 || i < 0 || i > 3) return OUTSIDE;
        List<Integer> row = t.rows.getOrDefault(name, new ArrayList<>());
        if (i > row.size()) return OUTSIDE;
        if (i == row.size()) {
            row.add(w);
        } else {
            row.set(i, w);
        }
        t.rows.put(name, row);
        return row.size();
    }

    int array(int words) {
        if (words < 1 || words > 10) return OUTSIDE;
        if (arrays.size() == 10) return ROOM;
        arrays.add(new int[words]);
        return 300 + arrays.size();
    }

    int called(int v, int text, boolean proper) {
        Thing t = thing(v);
        if (t == null || (text != 0 && meta(text) != 3)) return UNKNOWN;
        t.text = text == 0 ? null : texts.get(text - 101);
        t.proper = proper;
        return 1;
    }

    // ---- what stories do

    int send(int to, int name, int argument) {
        begin();
        return sent(to, name, argument);
    }

    int sendAs(int group, int to, int name, int argument) {
        begin();
        return sentAs(group, to, name, argument);
    }

    private void begin() {
        acts = 0;
        spent = false;
        depth = 0;
    }

    private int sent(int to, int name, int argument) {
        switch (meta(to)) {
            case 1: return sentToClass(to, name, argument);
            case 2: return answer(thing(to), to, name, argument);
            default: return tell(1, to, name);
        }
    }

    private int sentAs(int group, int to, int name, int argument) {
        if (meta(to) != 2) return tell(1, to, name);
        if (isOf(to, group) == 0) return tell(4, to, name);
        return answer(thing(group), to, name, argument);
    }

    private int answer(Thing holder, int self, int name, int argument) {
        if (!holder.rows.containsKey(name)) return tell(3, self, name);
        int v = holder.rows.get(name).get(0);
        if (meta(v) == 4) return ran(v, self, argument);
        if (meta(v) == 3) {
            say(texts.get(v - 101));
            return 1;
        }
        return v;
    }

    private int sentToClass(int to, int name, int argument) {
        Thing c = thing(to);
        if (name == 14) {
            return (int) c.pool.stream().filter(t -> t.free).count();
        }
        if (name == 12) {
            for (Thing t : c.pool) {
                if (t.free) {
                    t.free = false;
                    t.come();
                    hook(t, 1, argument);
                    return things.indexOf(t) + 1;
                }
            }
            return 0;
        }
        if (name != 13 && name != 15) return tell(2, to, name);
        Thing t = thing(argument);
        if (t == null || !c.pool.contains(t) || t.free) return tell(8, to, argument);
        hook(t, 2, 0);
        if (!t.free && name == 13) {
            t.leave();
            for (Thing child : new ArrayList<>(t.children)) {
                child.leave();
            }
            t.free = true;
        } else if (!t.free) {
            t.come();
            hook(t, 1, 0);
        }
        return 1;
    }

    private void hook(Thing t, int name, int argument) {
        if (t.rows.containsKey(name)) {
            sent(things.indexOf(t) + 1, name, argument);
        }
    }

    private int ran(int routine, int self, int argument) {
        if (depth == 12) return tell(9, self, 0);
        depth++;
        Frame f = new Frame();
        for (int[] act : routines.get(routine - 201)) {
            if (acts == 200) {
                if (!spent) {
                    tell(10, self, 0);
                }
                spent = true;
                break;
            }
            acts++;
            done(f, act[0], act[1], act[2], self, argument);
            if (f.ended) {
                break;
            }
        }
        depth--;
        return f.result;
    }

    private void done(Frame f, int op, int a, int b, int self, int argument) {
        if (op == 0) f.result = a;
        if (op == 1) f.result = argument;
        if (op == 2) f.result = self;
        if (op == 3) f.result += a;
        if (op == 4) f.result = read(self, a, b);
        if (op == 5) write(self, a, b, f.result);
        if (op == 6) f.result = sent(f.result, a, b);
        if (op == 7) f.result = sentAs(b, self, a, argument);
        if (op == 8) move(self, f.result);
        if (op >= 9 && op <= 11) f.result = tree(f.result, op - 9);
        if (op == 12) f.ended = f.result == 0;
        if (op == 13) name(f.result, a);
        if (op == 14) {
            f.result = isOf(f.result, a);
            f.ended = f.result == 1;
        }
    }

    int read(int of, int name, int i) {
        List<Integer> row = row(of, name, i);
        return row == null ? 0 : row.get(i);
    }

    int write(int of, int name, int i, int v) {
        List<Integer> row = row(of, name, i);
        if (row == null) return 0;
        row.set(i, v);
        return v;
    }

    /** The row that has value i, or null with a fault told. */
    private List<Integer> row(int of, int name, int i) {
        List<Integer> row = null;
        if (meta(of) != 1 && meta(of) != 2) {
            tell(1, of, name);
        } else if (!thing(of).rows.containsKey(name)) {
            tell(3, of, name);
        } else if (i < 0 || i >= thing(of).rows.get(name).size()) {
            tell(5, of, name);
        } else {
            row = thing(of).rows.get(name);
        }
        return row;
    }

    int move(int a, int b) {
        if (meta(a) != 2 || (b != 0 && meta(b) != 2)) return tell(6, a, b);
        Thing moved = thing(a);
        Thing to = thing(b);
        for (Thing t = to; t != null; t = t.parent) {
            if (t == moved) return tell(7, a, b);
        }
        moved.leave();
        if (to != null) {
            moved.parent = to;
            to.children.add(0, moved);
        }
        return 1;
    }

    int tree(int of, int what) {
        if (meta(of) != 2) return tell(6, of, 0);
        Thing t = thing(of);
        if (what == 0) return things.indexOf(t.parent) + 1;
        if (what == 1) return t.children.isEmpty() ? 0 : things.indexOf(t.children.get(0)) + 1;
        if (what != 2) return t.children.size();
        if (t.parent == null) return 0;
        List<Thing> all = t.parent.children;
        int next = all.indexOf(t) + 1;
        return next == all.size() ? 0 : things.indexOf(all.get(next)) + 1;
    }

    int loop(int of, int routine) {
        begin();
        if (meta(of) != 2) return tell(6, of, 0);
        if (meta(routine) != 4) return tell(13, of, routine);
        int child = tree(of, 1);
        for (int went = 1; went <= 40; went++) {
            if (child == 0) return went - 1;
            int n = tree(child, 2);
            ran(routine, child, of);
            if (n != 0 && thing(n).parent != thing(of)) {
                tell(11, n, 0);
                return went;
            }
            child = n;
        }
        return 40;
    }

    int meta(int v) {
        Thing t = thing(v);
        if (t != null) return t.isClass ? 1 : t.free ? 0 : 2;
        if (v > 100 && v <= 100 + texts.size()) return 3;
        if (v > 200 && v <= 200 + routines.size()) return 4;
        return v > 300 && v <= 300 + arrays.size() ? 5 : 0;
    }

    int isOf(int v, int group) {
        return meta(v) == 2 && meta(group) == 1 && thing(v).line().contains(thing(group)) ? 1 : 0;
    }

    int provides(int v, int name) {
        return meta(v) != 1 && meta(v) != 2 ? 0 : thing(v).rows.getOrDefault(name, List.of()).size();
    }

    int word(int array, int i) {
        if (meta(array) != 5) return tell(14, array, i);
        int[] words = arrays.get(array - 301);
        return i < 0 || i >= words.length ? tell(12, array, i) : words[i];
    }

    int setWord(int array, int i, int v) {
        if (meta(array) != 5) return tell(14, array, i);
        int[] words = arrays.get(array - 301);
        if (i < 0 || i >= words.length) return tell(12, array, i);
        words[i] = v;
        return v;
    }

    int byteOf(int array, int i) {
        if (meta(array) != 5) return tell(14, array, i);
        int[] words = arrays.get(array - 301);
        if (i < 0 || i >= 4 * words.length) return tell(12, array, i);
        String hex = String.format("%08x", words[i / 4]);
        return Integer.parseInt(hex.substring(i % 4 * 2, i % 4 * 2 + 2), 16);
    }

    int name(int v, int article) {
        Thing t = thing(v);
        if (v == 0) {
            say("nothing");
        } else if (meta(v) != 1 && meta(v) != 2) {
            say("(none)");
        } else {
            String body = t.text == null ? "(" + v + ")" : t.text;
            boolean bare = t.isClass || t.proper || t.text == null;
            say((t.isClass ? "class " : "") + (bare ? "" : article(t.text, article)) + body);
        }
        return out.length();
    }

    private static String article(String text, int article) {
        String[] articles = {"", "the ", text.matches("(?i)[aeiou].*") ? "an " : "a ", "The "};
        return article < 0 || article > 3 ? "" : articles[article];
    }

    // ---- what is told

    int out(int i) {
        return i < 0 || i >= out.length() ? NONE : out.charAt(i);
    }

    int clear() {
        int had = out.length();
        out = "";
        return had;
    }

    int fault(int i, int what) {
        return i < 0 || i >= faults.size() || what < 0 || what > 2 ? NONE : faults.get(i)[what];
    }

    int count(int what) {
        int[] counts = {things.size(), texts.size(), routines.size(), arrays.size(), faults.size(), out.length(), acts,
            draft.length()};
        return what < 0 || what > 7 ? NONE : counts[what];
    }

    private Thing thing(int v) {
        return v >= 1 && v <= things.size() ? things.get(v - 1) : null;
    }

    private void say(String s) {
        out = (out + s).substring(0, Math.min(400, out.length() + s.length()));
    }

    private int tell(int kind, int number, int second) {
        if (strict && faults.size() < 30) {
            faults.add(new int[] {kind, number, second});
        }
        return 0;
    }
}
