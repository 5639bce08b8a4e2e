import java.io.IOException;
import java.nio.file.Files;
import java.nio.file.Path;
import java.util.HashSet;
import java.util.Set;
import java.util.function.Consumer;
import java.util.function.ToIntFunction;

/**
 * What the tests of single sentences have in common. Each such test begins with sentence(): the promise, and the
 * document's own words, which are looked up there, so that no test can stand for a sentence that is not (or no longer)
 * in the document. No object is used for more than the 512 calls that are promised.
 */
abstract class Edges extends Story {
    private static final String DOCUMENT = document();
    private static String sentence = "";
    private static int sentences;
    private static final Set<Integer> promises = new HashSet<>();

    private static String document() {
        try {
            return plain(Files.readString(Path.of("../shared/DOC.md")));
        } catch (IOException e) {
            return "";
        }
    }

    private static String plain(String s) {
        return s.replaceAll("\\s+", " ");
    }

    static void sentence(int promise, String words) {
        sentence = "Promise " + promise + ", '" + words + "': ";
        sentences++;
        promises.add(promise);
        is("stands in the document", DOCUMENT.contains(plain(words)) ? 1 : 0, 1);
    }

    static void is(String call, long got, long want) {
        due.is(sentence + call, got, want);
    }

    static void is(String call, String got, String want) {
        due.is(sentence + call, got, want);
    }

    /** Ends the tests of these promises, each of which must have had one. */
    static void end(int first, int last) {
        for (int promise = first; promise <= last; promise++) {
            due.is("sentences of promise " + promise, promises.contains(promise) ? 1 : 0, 1);
        }
        System.out.println(sentences + " sentences");
        due.end();
    }

    /**
     * A small story with one of each kind: texts 101 and 102, routines 201 and 202, array 301 of three words, class 1,
     * class 2 of it with the pool 3 (there) and 4 (free), object 5 of class 2, object 6 of none; 3 and 6 lie in 5, two
     * letters stand in the draft, one name in out, and one fault is told. The next thing is 7.
     */
    static void house(VeneerRows x) {
        textOf(x, "owl");
        textOf(x, "Box");
        routineOf(x, a(1), a(3, 5));
        routineOf(x, a(2), a(13, 1));
        x.array(3);
        x.setWord(301, 0, 0x01020384);
        x.setWord(301, 2, MIN);
        x.group(0, 0, 0);
        row(x, 1, 0, 10, 11);
        row(x, 1, 3, 201);
        x.group(1, 0, 2);
        row(x, 2, 0, 20);
        row(x, 2, 4, 40, 41, 42, 43);
        x.object(2, 0);
        x.object(0, 0);
        row(x, 6, 11, -6);
        x.send(2, 12, 0);
        x.move(6, 5);
        x.move(3, 5);
        x.called(5, 101, false);
        x.called(2, 102, true);
        letters(x, "dr");
        x.name(5, 1);
        x.read(0, 0, 0);
    }

    static VeneerRows newHouse(int strict) {
        VeneerRows x = new VeneerRows(strict);
        house(x);
        return x;
    }

    /** A call of what builds a story that is refused: its answer, and nothing changes. */
    static void refused(String call, int answer, Consumer<VeneerRows> story, ToIntFunction<VeneerRows> refused) {
        for (int strict = 0; strict <= 1; strict++) {
            VeneerRows x = new VeneerRows(strict);
            VeneerRows y = new VeneerRows(strict);
            story.accept(x);
            story.accept(y);
            is(call, refused.applyAsInt(y), answer);
            is(call + ": acts of the latest call", y.count(6), x.count(6));
            is(call + ": faults", faults(y), faults(x));
            is(call + ": nothing changes", shown(y), shown(x));
        }
    }

    static void refused(String call, int answer, ToIntFunction<VeneerRows> refused) {
        refused(call, answer, Edges::house, refused);
    }

    /** A call with a fault: it answers 0, the fault is told if strict, and nothing else changes. */
    static void faulty(String call, String told, Consumer<VeneerRows> story, ToIntFunction<VeneerRows> faulty) {
        for (int strict = 0; strict <= 1; strict++) {
            VeneerRows x = new VeneerRows(strict);
            VeneerRows y = new VeneerRows(strict);
            story.accept(x);
            story.accept(y);
            is(call, faulty.applyAsInt(y), 0);
            String before = faults(x);
            is(call + ": fault", faults(y), strict == 0 ? "" : before.isEmpty() ? told : before + " " + told);
            is(call + ": nothing else changes", shown(y), shown(x));
        }
    }

    static void faulty(String call, String told, ToIntFunction<VeneerRows> faulty) {
        faulty(call, told, Edges::house, faulty);
    }

    /** A call that changes nothing and tells no fault: its answer, strict or not. */
    static void quiet(String call, int answer, Consumer<VeneerRows> story, ToIntFunction<VeneerRows> quiet) {
        for (int strict = 0; strict <= 1; strict++) {
            VeneerRows x = new VeneerRows(strict);
            VeneerRows y = new VeneerRows(strict);
            story.accept(x);
            story.accept(y);
            is(call, quiet.applyAsInt(y), answer);
            is(call + ": no fault", faults(y), faults(x));
            is(call + ": nothing changes", shown(y), shown(x));
        }
    }

    static void quiet(String call, int answer, ToIntFunction<VeneerRows> quiet) {
        quiet(call, answer, Edges::house, quiet);
    }

    // ---- all that later calls show of a small story; it is not the same afterwards

    static String shown(VeneerRows x) {
        StringBuilder s = new StringBuilder();
        for (int what : new int[] {0, 1, 2, 3, 5, 7}) {
            s.append(x.count(what)).append(' ');
        }
        s.append(said(x));
        x.clear();
        int things = x.count(0);
        int anObject = 0;
        for (int v = 1; v <= things; v++) {
            int meta = x.meta(v);
            s.append("\n").append(v).append(" meta ").append(meta);
            if (meta == 1) {
                s.append(" free ").append(x.send(v, 14, 0));
            }
            if (meta == 2) {
                anObject = v;
                s.append(" in ").append(x.tree(v, 0)).append(" has ").append(childrenOf(x, v)).append(" is of");
                for (int c = 1; c <= Math.min(things, 6); c++) {
                    s.append(' ').append(x.isOf(v, c));
                }
            }
            if (meta != 0) {
                rowsShown(x, v, s);
            }
            x.name(v, 1);
        }
        s.append("\nnames ").append(said(x));
        if (anObject != 0) {
            textsShown(x, anObject, s);
            routinesShown(x, anObject, s);
        }
        arraysShown(x, s);
        return s.toString();
    }

    private static void rowsShown(VeneerRows x, int v, StringBuilder s) {
        for (int name = 0; name < 12; name++) {
            String row = rowOf(x, v, name);
            if (!row.isEmpty()) {
                s.append("; ").append(name).append(": ").append(row);
            }
        }
    }

    /** Every text, and the draft as one more where there is room for it. */
    private static void textsShown(VeneerRows x, int anObject, StringBuilder s) {
        x.text();
        x.clear();
        int texts = x.count(1);
        for (int t = 101; t <= 100 + texts; t++) {
            x.called(anObject, t, true);
            s.append(' ').append(x.name(anObject, 0));
        }
        s.append("\ntexts ").append(said(x));
    }

    private static void routinesShown(VeneerRows x, int anObject, StringBuilder s) {
        s.append("\nroutines");
        int routines = x.count(2);
        for (int r = 201; r <= 200 + routines; r++) {
            x.value(anObject, 7, 0, r);
            s.append(' ').append(x.send(anObject, 7, 3)).append('/').append(x.count(6)).append('/')
                .append(x.act(r, 0, 0, 0));
        }
    }

    /** Beyond the last word the answer is 0; how long an array is, the faults tell. */
    private static void arraysShown(VeneerRows x, StringBuilder s) {
        s.append("\narrays");
        int arrays = x.count(3);
        int told = x.count(4);
        for (int r = 301; r <= 300 + arrays; r++) {
            for (int i = 0; i <= 3; i++) {
                s.append(' ').append(x.word(r, i));
            }
            s.append(" beyond ").append(x.count(4) - told);
        }
    }
}
