/** Promises 25 to 28, and part 4 of the terms: out, faults and counts: a test for each sentence that names an edge. */
public final class EdgesToldTest extends Edges {
    public static void main(String[] args) {
        outPlaces();
        outFullByName();
        outFullByText();
        outFullAnew();
        clearAll();
        faultPlaces();
        faultWhats();
        faultsFull();
        faultsFullElse();
        faultKinds();
        faultNumbers();
        notStrict();
        countWhats();
        countThings();
        countActs();
        countDraft();
        nothingByAsking();
        end(25, 28);
    }

    // ---- promise 25

    private static void outPlaces() {
        sentence(25, "Byte i of OUT; NONE.");
        VeneerRows x = strict();
        for (int i : new int[] {0, 1, -1, MIN, MAX}) {
            is("out(" + i + ") of none", x.out(i), NONE);
        }
        x.name(0, 0);
        String nothing = "nothing";
        for (int i = 0; i < 7; i++) {
            is("out(" + i + ")", x.out(i), nothing.charAt(i));
        }
        for (int i : new int[] {-1, 7, 8, 399, 400, -7, MIN, MAX}) {
            is("out(" + i + ")", x.out(i), NONE);
        }
        x.object(0, 0);
        x.called(1, textOf(x, " ~"), true);
        x.clear();
        x.name(1, 0);
        is("the least byte", x.out(0), 32);
        is("the greatest byte", x.out(1), 126);
    }

    /** Out has 399 bytes: 57 times "nothing". */
    private static VeneerRows almostFull() {
        VeneerRows x = strict();
        x.object(0, 0);
        x.called(1, textOf(x, "owl"), false);
        for (int k = 1; k <= 57; k++) {
            x.name(0, 0);
        }
        return x;
    }

    private static void outFullByName() {
        sentence(24, "OUT has 400 bytes at most; what would be above is left out.");
        VeneerRows x = almostFull();
        is("count(5)", x.count(5), 399);
        is("out(398)", x.out(398), 'g');
        is("out(399)", x.out(399), NONE);
        is("one byte of it", x.name(1, 3), 400);
        is("out(399)", x.out(399), 'T');
        is("out(400)", x.out(400), NONE);
        is("none of it", x.name(1, 3), 400);
        is("none of it", x.name(0, 0), 400);
        is("none of it", x.name(2, 0), 400);
        is("out(399)", x.out(399), 'T');
        is("out(0)", x.out(0), 'n');
        is("count(5)", x.count(5), 400);
        is("no fault", x.count(4), 0);
        VeneerRows y = almostFull();
        y.clear();
        for (int k = 1; k <= 56; k++) {
            y.name(0, 0);
        }
        is("392 bytes", y.count(5), 392);
        y.name(1, 0);
        is("395 and just 5 more", y.name(1, 0), 398);
        is("two bytes of it", y.name(2, 0), 400);
        is("two bytes of it", y.out(398) == '(' && y.out(399) == 'n' ? 1 : 0, 1);
    }

    private static void outFullByText() {
        sentence(11, "OUT has 400 bytes at most; what would be above is left out.");
        VeneerRows x = strict();
        x.object(0, 0);
        x.value(1, 3, 0, textOf(x, "abcdefghijklmnopqrst"));
        for (int k = 1; k <= 20; k++) {
            is("a TEXT", x.send(1, 3, 0), 1);
            is("count(5)", x.count(5), 20 * k);
        }
        is("just full", x.out(399), 't');
        is("one more is left out", x.send(1, 3, 0), 1);
        is("count(5)", x.count(5), 400);
        is("out(400)", x.out(400), NONE);
        is("no fault", x.count(4), 0);
        VeneerRows y = almostFull();
        y.value(1, 3, 0, 101);
        is("one byte of it", y.send(1, 3, 0), 1);
        is("one byte of it", y.out(399), 'o');
        is("count(5)", y.count(5), 400);
    }

    private static void outFullAnew() {
        sentence(26, "OUT has 400 bytes at most");
        VeneerRows x = almostFull();
        x.name(0, 0);
        is("clear() of a full one", x.clear(), 400);
        is("count(5)", x.count(5), 0);
        is("out(0)", x.out(0), NONE);
        is("out(399)", x.out(399), NONE);
        is("anew", x.name(1, 0), 3);
        is("anew", said(x), "owl");
    }

    // ---- promise 26

    private static void clearAll() {
        sentence(26, "OUT is empty: how many bytes it had.");
        VeneerRows x = strict();
        is("of none", x.clear(), 0);
        x.name(0, 0);
        is("of seven", x.clear(), 7);
        is("of none again", x.clear(), 0);
        is("count(5)", x.count(5), 0);
        for (int i = -1; i <= 7; i++) {
            is("out(" + i + ")", x.out(i), NONE);
        }
        VeneerRows y = newHouse(1);
        VeneerRows z = newHouse(1);
        is("of the house", y.clear(), 7);
        is("faults stay", faults(y), faults(z));
        z.clear();
        is("all else stays", shown(y), shown(z));
    }

    // ---- promise 27

    private static void faultPlaces() {
        sentence(27, "NONE: there is no such FAULT");
        VeneerRows x = strict();
        for (int i : new int[] {0, 1, -1, 29, 30, MIN, MAX}) {
            is("fault(" + i + ", 0) of none", x.fault(i, 0), NONE);
        }
        x.move(-7, -8);
        x.word(5, 6);
        is("the first", x.fault(0, 0) + "/" + x.fault(0, 1) + "/" + x.fault(0, 2), "6/-7/-8");
        is("the last", x.fault(1, 0) + "/" + x.fault(1, 1) + "/" + x.fault(1, 2), "14/5/6");
        for (int i : new int[] {-1, 2, 3, 29, 30, MIN, MAX}) {
            for (int what = 0; what <= 2; what++) {
                is("fault(" + i + ", " + what + ")", x.fault(i, what), NONE);
            }
        }
    }

    private static void faultWhats() {
        sentence(27, "what = 0 its kind, 1 the number, 2 the second one; NONE: there is no such FAULT, or what.");
        VeneerRows x = strict();
        x.read(MIN, MAX, 0);
        is("0", x.fault(0, 0), 1);
        is("1", x.fault(0, 1), MIN);
        is("2", x.fault(0, 2), MAX);
        for (int what : new int[] {-1, 3, 4, -3, MIN, MAX}) {
            is("fault(0, " + what + ")", x.fault(0, what), NONE);
            is("fault(1, " + what + ")", x.fault(1, what), NONE);
        }
    }

    private static void faultsFull() {
        sentence(27, "FAULTS are told in STRICT mode, the first 30");
        VeneerRows x = strict();
        for (int k = 1; k <= 30; k++) {
            x.read(-k, k, 0);
            is("count(4)", x.count(4), k);
        }
        is("the 30th", x.fault(29, 1), -30);
        is("no 31st", x.fault(30, 0), NONE);
        for (int k = 31; k <= 33; k++) {
            is("it answers as ever", x.read(-k, k, 0), 0);
            is("count(4)", x.count(4), 30);
            is("no " + k + "th", x.fault(k - 1, 0), NONE);
        }
        for (int i = 0; i < 30; i++) {
            is("fault(" + i + ", ..)", x.fault(i, 0) + "/" + x.fault(i, 1) + "/" + x.fault(i, 2),
                "1/" + (-i - 1) + "/" + (i + 1));
        }
    }

    private static void faultsFullElse() {
        sentence(28, "FAULTS are told in STRICT mode, the first 30");
        VeneerRows x = strict();
        // Ten children, each of which has four faults: the last ones are not told, and all is done.
        int r = routineOf(x, a(4, 9, 0), a(4, 8, 0), a(9), a(10), a(4, 3, 0), a(3, 1), a(5, 3, 0));
        objects(x, 1);
        for (int k = 2; k <= 11; k++) {
            x.object(0, 0);
            x.value(k, 3, 0, 7);
            x.move(k, 1);
        }
        is("loop", x.loop(1, r), 10);
        is("count(4)", x.count(4), 30);
        is("count(6)", x.count(6), 70);
        is("the 30th is of the eighth", x.fault(29, 1), 4);
        is("the last one did all", x.read(2, 3, 0), 8);
    }

    private static void faultKinds() {
        sentence(27, "a kind, the number, and a second one: the NAME (1 to 5, SENT, READ, WRITTEN), to what it was "
            + "MOVED (6, 7; of PARENT, CHILD, SIBLING, LOOPS 0), the ARGUMENT (8), the ROUTINE (13), the place (12, "
            + "14), else 0");
        VeneerRows x = newHouse(1);
        x.send(7, 1, 9);
        x.send(2, 1, 9);
        x.send(5, 1, 9);
        x.sendAs(1, 6, 3, 9);
        x.sendAs(1, 5, 4, 9);
        x.sendAs(1, 2, 3, 9);
        x.read(5, 0, 3);
        x.write(5, 4, 4, 9);
        x.move(7, 5);
        x.move(5, 7);
        x.move(5, 3);
        x.tree(7, 0);
        x.tree(1, 1);
        x.tree(4, 2);
        x.tree(2, 3);
        x.loop(4, 201);
        x.send(2, 13, 5);
        x.send(2, 15, 4);
        x.loop(5, 203);
        x.word(301, 3);
        x.setWord(301, -1, 9);
        x.byteOf(301, 12);
        x.word(302, 0);
        x.setWord(300, 5, 9);
        x.byteOf(0, -4);
        is("faults", faults(x), "1/0/0 1/7/1 2/2/1 3/5/1 4/6/3 3/5/4 1/2/3 5/5/0 5/5/4 6/7/5 6/5/7 7/5/3 6/7/0 "
            + "6/1/0 6/4/0 6/2/0 6/4/0 8/2/5 8/2/4 13/5/203 12/301/3 12/301/-1 12/301/12 14/302/0 14/300/5 14/0/-4");
        VeneerRows y = strict();
        // 9 and 10 tell SELF, 11 tells n; their second one is 0.
        objects(y, 3);
        y.value(1, 3, 0, routineOf(y, a(2), a(6, 3, 7)));
        y.send(1, 3, 8);
        y.value(3, 3, 0, routineOf(y, a(0, 0), a(8)));
        y.move(3, 1);
        y.move(2, 1);
        y.loop(1, routineOf(y, a(0, 3), a(6, 3, 7)));
        is("9 and 11", faults(y), "9/1/0 11/3/0");
        for (int name = 3; name <= 5; name++) {
            int[] next = a(6, name + 1, 7);
            y.value(2, name, 0, routineOf(y, a(2), next, a(2), next, a(2), next, a(2), next));
        }
        y.value(2, 6, 0, routineOf(y, a(2), a(2), a(2), a(2), a(2), a(2), a(2), a(2)));
        y.send(2, 3, 8);
        is("9, 11 and 10", faults(y), "9/1/0 11/3/0 10/2/0");
    }

    private static void faultNumbers() {
        sentence(27, "the number being that to which is SENT, which is READ, MOVED, asked (8: the CLASS; 9, 10: SELF, 11: "
            + "n).");
        // In routines too: 3 is SELF, 5 what is sent to or asked of; 4 is free.
        int[][] acts = {a(4, 11, 0), a(5, 11, 0), a(7, 3, 2), a(7, 9, 2), a(6, 9, 0), a(6, 5, 0), a(6, 13, 6), a(8), a(9)};
        int[] results = {0, 0, 0, 0, 5, 2, 2, 4, 4};
        String[] told = {"3/3/11", "3/3/11", "3/3/3", "3/3/9", "3/5/9", "2/2/5", "8/2/6", "6/3/4", "6/4/0"};
        for (int k = 0; k < acts.length; k++) {
            VeneerRows x = newHouse(1);
            x.value(3, 7, 0, routineOf(x, a(0, results[k]), acts[k]));
            x.send(3, 7, 9);
            is("act " + acts[k][0], faults(x), "1/0/0 " + told[k]);
        }
        VeneerRows x = newHouse(1);
        x.value(3, 7, 0, routineOf(x, a(0, 6), a(8)));
        x.value(6, 7, 0, routineOf(x, a(0, 3), a(8), a(7, 3, 2)));
        x.send(3, 7, 9);
        x.send(6, 7, 9);
        is("7 and 4 of SELF", faults(x), "1/0/0 7/6/3 4/6/3");
    }

    private static void notStrict() {
        sentence(27, "Without STRICT none is told; all else is the same.");
        VeneerRows x = new VeneerRows(0);
        house(x);
        is("answers", "" + x.send(7, 1, 9) + x.send(2, 1, 9) + x.send(5, 1, 9) + x.sendAs(1, 6, 3, 9) + x.read(5, 0, 3)
            + x.write(5, 4, 4, 9) + x.move(7, 5) + x.move(5, 3) + x.tree(7, 0) + x.loop(4, 201) + x.send(2, 13, 5)
            + x.loop(5, 203) + x.word(301, 3) + x.setWord(302, 0, 9) + x.byteOf(301, 12), "000000000000000");
        is("count(4)", x.count(4), 0);
        is("fault(0, 0)", x.fault(0, 0), NONE);
        is("fault(0, 1)", x.fault(0, 1), NONE);
        is("all else", shown(x), shown(newHouse(1)).replace("beyond 1", "beyond 0"));
    }

    // ---- promise 28

    private static void countWhats() {
        sentence(28, "NONE for others.");
        for (int what : new int[] {-1, 8, 9, -8, 256, MIN, MAX}) {
            quiet("count(" + what + ")", NONE, x -> x.count(what));
        }
        int[] counts = {6, 2, 2, 1, 1, 7, 0, 2};
        for (int what = 0; what <= 7; what++) {
            is("count(" + what + ")", newHouse(1).count(what), counts[what]);
        }
    }

    private static void countThings() {
        sentence(28, "0 THINGS, 1 TEXTS, 2 ROUTINES, 3 ARRAYS, 4 FAULTS told, 5 bytes of OUT");
        VeneerRows x = strict();
        is("a CLASS and its POOL", x.group(0, 0, 6), 1);
        is("count(0)", x.count(0), 7);
        x.send(1, 12, 0);
        x.send(1, 13, 2);
        is("none comes or goes", x.count(0), 7);
        objects(x, 40);
        for (int k = 0; k < 25; k++) {
            x.text();
            x.routine();
            x.array(1);
        }
        for (int k = 0; k < 60; k++) {
            x.name(0, 0);
            x.tree(0, 0);
        }
        int[] full = {40, 20, 20, 10, 30, 400};
        for (int what = 0; what <= 5; what++) {
            is("full: count(" + what + ")", x.count(what), full[what]);
        }
    }

    private static void countActs() {
        sentence(28, "6 ACTS done in the latest of send(), sendAs(), loop()");
        VeneerRows x = newHouse(1);
        is("none yet that did one", x.count(6), 0);
        x.value(5, 9, 0, 201);
        x.send(5, 9, 0);
        is("send()", x.count(6), 2);
        x.read(5, 9, 0);
        x.write(5, 9, 0, 201);
        x.move(3, 0);
        x.move(3, 5);
        x.tree(5, 0);
        x.meta(5);
        x.isOf(5, 1);
        x.provides(5, 0);
        x.word(301, 0);
        x.setWord(301, 0, 1);
        x.byteOf(301, 0);
        x.name(5, 0);
        x.out(0);
        x.clear();
        x.fault(0, 0);
        x.routine();
        x.value(5, 8, 0, 1);
        x.object(0, 0);
        is("no other call changes it", x.count(6), 2);
        x.loop(5, 202);
        is("loop()", x.count(6), 4);
        x.sendAs(1, 5, 3, 0);
        is("sendAs()", x.count(6), 2);
        x.sendAs(1, 5, 9, 0);
        is("sendAs() with a FAULT", x.count(6), 0);
        x.send(5, 9, 0);
        x.send(0, 9, 0);
        is("send() with a FAULT", x.count(6), 0);
        x.send(5, 9, 0);
        x.send(5, 4, 0);
        is("send() of a VALUE", x.count(6), 0);
        x.value(5, 9, 0, routineOf(x, a(0, 0), a(12), a(0, 5)));
        x.send(5, 9, 0);
        is("the one that ends is done, those behind it are not", x.count(6), 2);
    }

    private static void countDraft() {
        sentence(28, "7 letters of THE DRAFT");
        VeneerRows x = strict();
        for (int k = 0; k <= 20; k++) {
            is("count(7)", x.count(7), k);
            x.letter('a');
        }
        is("full", x.count(7), 20);
        x.letter(31);
        is("full", x.count(7), 20);
        x.text();
        is("empty then", x.count(7), 0);
    }

    private static void nothingByAsking() {
        sentence(28, "Nothing is promised beyond the answers and state changes described above");
        quiet("out(0)", 't', x -> x.out(0));
        quiet("out(7)", NONE, x -> x.out(7));
        quiet("fault(30, 0)", NONE, x -> x.fault(30, 0));
        quiet("count(0)", 6, x -> x.count(0));
        quiet("count(7)", 2, x -> x.count(7));
    }
}
