import java.util.Random;

/**
 * Long runs of calls on VeneerRows and on the Model: each answer, and all that is told, alike. Every other run is wild
 * (numbers of all kinds), the others build whole stories, in which routines go deep and long, and loops break.
 */
public final class RunsTest {
    private static final int RUNS = 20000;
    /** An object is promised to answer so many calls; the last part of them is for what is told. */
    private static final int CALLS = 512, PLAYED = 360;
    private static final int[] WILD = {Integer.MIN_VALUE, Integer.MAX_VALUE, -1, 41, 100, 121, 200, 221, 300, 311, 12};
    private static final Due due = new Due();

    private final Random random;
    private final VeneerRows x;
    private final Model m;
    private final String run;
    private int calls;

    private RunsTest(int seed) {
        random = new Random(seed);
        int strict = seed % 7 == 0 ? 0 : seed;
        x = new VeneerRows(strict);
        m = new Model(strict);
        run = "run " + seed + ", ";
    }

    public static void main(String[] args) {
        for (int seed = 1; seed <= RUNS && due.wrong() < 20; seed++) {
            RunsTest test = new RunsTest(seed);
            if (seed % 2 == 0) {
                test.wildRun();
            } else {
                test.story();
            }
            test.compareWhatIsTold();
        }
        due.end();
    }

    private boolean goesOn(int most) {
        return calls < most && due.wrong() < 20;
    }

    private void wildRun() {
        int built = 20 + below(140);
        while (goesOn(PLAYED)) {
            if (calls < built || oneIn(12)) {
                build();
            } else {
                play();
            }
        }
    }

    // ---- stories

    private void story() {
        int names = 2 + below(5), classes = 1 + below(4), objects = 4 + below(12);
        for (int k = 0; k < 6 + below(14); k++) {
            is("routine", x.routine(), m.routine());
        }
        for (int k = 0; k < classes; k++) {
            int first = m.count(0) == 0 ? 0 : parent(), pool = below(5);
            is("group", x.group(first, 0, pool), m.group(first, 0, pool));
            rowsOf(knownClass(), names);
        }
        for (int k = 0; k < objects; k++) {
            int first = parent(), second = parent();
            is("object", x.object(first, second), m.object(first, second));
            if (oneIn(2)) {
                rowsOf(knownObject(), names);
            }
        }
        for (int r = 201; r <= 200 + m.count(2); r++) {
            writeRoutine(r, names);
        }
        int room = knownObject();
        while (goesOn(PLAYED)) {
            playStory(room, names);
        }
    }

    private void rowsOf(int thing, int names) {
        for (int name = 0; name < names; name++) {
            int v = oneIn(8) ? below(50) : 201 + below(m.count(2));
            if (!oneIn(6)) {
                is("value", x.value(thing, name, 0, v), m.value(thing, name, 0, v));
            }
        }
    }

    /** Up to three pieces, each of which does something that makes sense in most places. */
    private void writeRoutine(int r, int names) {
        for (int k = 0; k < 1 + below(3); k++) {
            int n = below(names);
            switch (below(12)) {
                case 0: add(r, 2, 0, 0, 6, n, below(9)); break;
                case 1: add(r, 0, knownObject(), 0, 6, n, 0); break;
                case 2: add(r, 2, 0, 0, 11, 0, 0, 12, 0, 0, 6, n, 0); break;
                case 3: add(r, 2, 0, 0, 10, 0, 0, 12, 0, 0, 6, n, 0); break;
                case 4: add(r, 0, 0, 0, 8, 0, 0); break;
                case 5: add(r, 2, 0, 0, 9, 0, 0, 8, 0, 0); break;
                case 6: add(r, 1, 0, 0, 8, 0, 0); break;
                case 7: add(r, 0, knownClass(), 0, 6, 12 + below(4), knownObject()); break;
                case 8: add(r, 0, knownClass(), 0, 6, 12, n, 6, below(names), 0); break;
                case 9: add(r, 4, n, 0, 3, 1, 0, 5, n, 1); break;
                case 10: add(r, 7, n, knownClass()); break;
                default: add(r, 2, 0, 0, 13, 0, 0); break;
            }
        }
    }

    private void add(int r, int... acts) {
        for (int k = 0; k + 2 < acts.length; k += 3) {
            is("act", x.act(r, acts[k], acts[k + 1], acts[k + 2]), m.act(r, acts[k], acts[k + 1], acts[k + 2]));
        }
    }

    private void playStory(int room, int names) {
        for (int k = 0; k < 4; k++) {
            int a = knownObject(), b = oneIn(5) ? knownObject() : room;
            if (a != b) {
                is("move", x.move(a, b), m.move(a, b));
            }
        }
        int to = knownObject(), group = knownClass(), name = below(names), r = 201 + below(m.count(2));
        switch (below(5)) {
            case 0: is("loop " + to, x.loop(to, r), m.loop(to, r)); break;
            case 1: is("loop " + room, x.loop(room, r), m.loop(room, r)); break;
            case 2: is("send " + group, x.send(group, 12 + name % 4, to), m.send(group, 12 + name % 4, to)); break;
            case 3: is("sendAs " + to, x.sendAs(group, to, name, 1), m.sendAs(group, to, name, 1)); break;
            default: is("send " + to, x.send(to, name, room), m.send(to, name, room)); break;
        }
        is("acts", x.count(6), m.count(6));
        compareOneCount();
        compareTree(1 + below(m.count(0)));
    }

    // ---- wild runs

    private boolean oneIn(int n) {
        return random.nextInt(n) == 0;
    }

    private int below(int n) {
        return random.nextInt(n);
    }

    private int wild() {
        return oneIn(2) ? WILD[below(WILD.length)] : random.nextInt();
    }

    private int thing() {
        return oneIn(40) ? wild() : below(m.count(0) + 2);
    }

    private int knownClass() {
        for (int k = 0; k < 20; k++) {
            int v = 1 + below(40);
            if (m.meta(v) == 1) {
                return v;
            }
        }
        return thing();
    }

    private int knownObject() {
        for (int k = 0; k < 20; k++) {
            int v = 1 + below(40);
            if (m.meta(v) == 2) {
                return v;
            }
        }
        return thing();
    }

    private int parent() {
        return oneIn(3) ? 0 : oneIn(20) ? thing() : knownClass();
    }

    private int routine() {
        return oneIn(40) ? wild() : 201 + below(m.count(2) + (oneIn(10) ? 1 : 0) + (m.count(2) == 0 ? 1 : 0));
    }

    private int name() {
        return oneIn(60) ? wild() : oneIn(8) ? below(16) : below(6);
    }

    private int content() {
        switch (below(5)) {
            case 0: return 101 + below(m.count(1) + 1);
            case 1: return thing();
            default: return routine();
        }
    }

    /** Each is one call of the object. */
    private void is(String call, int got, int want) {
        calls++;
        if (calls <= CALLS) {
            due.is(run + call, got, want);
        }
    }

    private void build() {
        switch (below(14)) {
            case 0: {
                int c = oneIn(30) ? wild() : oneIn(2) ? "aeiouAEIOU".charAt(below(10)) : 31 + below(97);
                is("letter " + c, x.letter(c), m.letter(c));
                break;
            }
            case 1: if (oneIn(3)) is("text", x.text(), m.text()); break;
            case 2: if (oneIn(2)) is("routine", x.routine(), m.routine()); break;
            case 3: case 4: case 5: case 6: act(); break;
            case 7: {
                int first = parent(), second = parent(), pool = oneIn(20) ? below(9) - 1 : below(4);
                if (oneIn(3)) is("group", x.group(first, second, pool), m.group(first, second, pool));
                break;
            }
            case 8: {
                int first = parent(), second = parent();
                if (oneIn(2)) is("object", x.object(first, second), m.object(first, second));
                break;
            }
            case 9: case 10: case 11: {
                int v = thing(), name = name(), i = oneIn(2) ? 0 : below(6) - 1, w = content();
                is("value " + v + " " + name + " " + i, x.value(v, name, i, w), m.value(v, name, i, w));
                break;
            }
            case 12: {
                int words = below(13) - 1;
                if (oneIn(4)) is("array", x.array(words), m.array(words));
                break;
            }
            default: {
                int v = thing(), text = oneIn(9) ? 0 : oneIn(20) ? wild() : 101 + below(m.count(1) + 1);
                boolean proper = oneIn(3);
                is("called", x.called(v, text, proper), m.called(v, text, proper));
            }
        }
    }

    private void act() {
        int r = routine(), op = oneIn(60) ? wild() : oneIn(4) ? 6 : below(15), a, b;
        switch (op) {
            case 0: a = oneIn(3) ? content() : oneIn(3) ? knownClass() : knownObject(); b = 0; break;
            case 6: a = oneIn(3) ? 12 + below(4) : name(); b = oneIn(4) ? content() : knownObject(); break;
            case 7: a = name(); b = knownClass(); break;
            case 14: a = knownClass(); b = 0; break;
            default: a = name(); b = below(4); break;
        }
        is("act " + op, x.act(r, op, a, b), m.act(r, op, a, b));
    }

    private void play() {
        switch (below(18)) {
            case 0: case 1: case 2: case 3: {
                int to = oneIn(3) ? thing() : knownObject(), name = name(), argument = oneIn(3) ? content() : thing();
                is("send " + to + " " + name, x.send(to, name, argument), m.send(to, name, argument));
                break;
            }
            case 4: case 5: case 6: {
                int to = knownClass(), name = 12 + below(4), argument = oneIn(2) ? thing() : knownObject();
                is("send " + to + " " + name, x.send(to, name, argument), m.send(to, name, argument));
                break;
            }
            case 7: {
                int group = knownClass(), to = knownObject(), name = name(), argument = thing();
                is("sendAs", x.sendAs(group, to, name, argument), m.sendAs(group, to, name, argument));
                break;
            }
            case 8: case 9: case 10: {
                int a = oneIn(20) ? thing() : knownObject(), b = oneIn(9) ? 0 : oneIn(9) ? thing() : knownObject();
                is("move " + a + " " + b, x.move(a, b), m.move(a, b));
                break;
            }
            case 11: case 12: {
                int of = oneIn(9) ? thing() : knownObject(), r = routine();
                is("loop " + of + " " + r, x.loop(of, r), m.loop(of, r));
                break;
            }
            default: playOnOne();
        }
        compareOneCount();
    }

    private void playOnOne() {
        int v = thing(), name = name(), i = oneIn(30) ? wild() : below(6) - 1, w = content();
        int array = oneIn(20) ? wild() : 301 + below(m.count(3) + 1), place = oneIn(20) ? wild() : below(44) - 2;
        switch (below(11)) {
            case 0: is("read", x.read(v, name, i), m.read(v, name, i)); break;
            case 1: is("write", x.write(v, name, i, w), m.write(v, name, i, w)); break;
            case 2: is("tree", x.tree(v, i), m.tree(v, i)); break;
            case 3: is("meta", x.meta(w), m.meta(w)); break;
            case 4: is("isOf", x.isOf(v, name), m.isOf(v, name)); break;
            case 5: is("provides", x.provides(v, name), m.provides(v, name)); break;
            case 6: is("word", x.word(array, i), m.word(array, i)); break;
            case 7: is("setWord", x.setWord(array, i, wildWord(w)), m.setWord(array, i, wildWord(w))); break;
            case 8: is("byteOf", x.byteOf(array, place), m.byteOf(array, place)); break;
            case 9: is("name", x.name(v, i), m.name(v, i)); break;
            default: clearAtTimes();
        }
    }

    /** A word all of whose bytes differ, most often. */
    private static int wildWord(int w) {
        return w * 0x9E3779B1;
    }

    private void clearAtTimes() {
        if (oneIn(9)) {
            is("clear", x.clear(), m.clear());
        }
    }

    private void compareOneCount() {
        int what = 4 + below(3);
        is("count " + what, x.count(what), m.count(what));
    }

    private void compareTree(int v) {
        is("meta", x.meta(v), m.meta(v));
        for (int what = 0; what <= 3 && m.meta(v) == 2; what++) {
            is("tree", x.tree(v, what), m.tree(v, what));
        }
    }

    private void compareOut() {
        for (int i = m.count(5); i >= -1 && goesOn(CALLS); i--) {
            is("out " + i, x.out(i), m.out(i));
        }
    }

    private void compareFaults() {
        for (int i = m.count(4); i >= -1 && goesOn(CALLS); i--) {
            for (int what = -1; what <= 3; what++) {
                is("fault " + i + " " + what, x.fault(i, what), m.fault(i, what));
            }
        }
    }

    private void compareCounts() {
        for (int what = -1; what <= 8; what++) {
            is("count " + what, x.count(what), m.count(what));
        }
    }

    private void compareTrees() {
        for (int v = m.count(0); v >= 1 && goesOn(CALLS); v--) {
            compareTree(v);
        }
    }

    /** Begins anywhere: there are calls left for a part of them. */
    private void compareRows() {
        int things = m.count(0) + 1, from = below(things);
        for (int k = 0; k < things && goesOn(CALLS); k++) {
            int v = (from + k) % things;
            for (int name = 0; name < 12; name++) {
                is("provides", x.provides(v, name), m.provides(v, name));
                for (int i = 0; i < m.provides(v, name); i++) {
                    is("read", x.read(v, name, i), m.read(v, name, i));
                }
            }
        }
    }

    /** A part at a time, another one first in each run, as long as there are calls left. */
    private void compareWhatIsTold() {
        int from = below(5);
        for (int k = 0; k < 5 && goesOn(CALLS); k++) {
            switch ((from + k) % 5) {
                case 0: compareOut(); break;
                case 1: compareFaults(); break;
                case 2: compareCounts(); break;
                case 3: compareTrees(); break;
                default: compareRows(); break;
            }
        }
    }
}
