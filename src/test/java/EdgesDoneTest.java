/** Promises 13 to 24: rows, the tree, loops, arrays and names: a test for each sentence that names an edge. */
public final class EdgesDoneTest extends Edges {
    public static void main(String[] args) {
        readOfWhat();
        readOwnRows();
        readWithoutRow();
        readWithoutValue();
        readOrder();
        writeOfWhat();
        writeWithoutRow();
        writeWithoutValue();
        writeAnyInt();
        moveWhat();
        moveToWhat();
        moveIntoItself();
        moveOrder();
        moveOut();
        moveLastFirst();
        moveFull();
        treeOfWhat();
        treeInNothing();
        treeOthers();
        treeSibling();
        loopOfWhat();
        loopOrder();
        loopEmpty();
        loopArguments();
        loopNextAhead();
        loopBroken();
        loopBrokenLater();
        loopBrokenByEnd();
        loopLastOne();
        loopFull();
        metaOfNumbers();
        isOfWhat();
        isOfLine();
        providesWhat();
        providesNames();
        providesMany();
        wordOfWhat();
        wordBeyond();
        setWordOfWhat();
        setWordBeyond();
        byteOfWhat();
        byteBeyond();
        byteOrder();
        nameOf0();
        nameOfNone();
        nameOfClass();
        nameWithoutText();
        nameArticles();
        nameVowels();
        nameOtherArticles();
        nameProper();
        nameBytes();
        end(13, 24);
    }

    private static String nameOf(VeneerRows x, int v, int article) {
        x.clear();
        x.name(v, article);
        return said(x);
    }

    /** Numbers that are neither a class nor an object that is there, in the house: 4 is free, 7 comes next. */
    private static final int[] NO_THINGS = {0, 4, 7, 40, 41, -1, 100, 101, 201, 301, MIN, MAX};

    // ---- promise 13

    private static void readOfWhat() {
        sentence(13, "READ (VALUE i of a NAME of a number): FAULT 1 as above");
        for (int v : NO_THINGS) {
            faulty("read(" + v + ", 3, 0)", "1/" + v + "/3", x -> x.read(v, 3, 0));
        }
        faulty("a FREE one with such a ROW", "1/4/4", x -> x.read(4, 4, 0));
        quiet("read(5, 4, 0)", 40, x -> x.read(5, 4, 0));
        quiet("read(3, 4, 0), of a POOL", 40, x -> x.read(3, 4, 0));
        quiet("read(6, 11, 0), the last THING", -6, x -> x.read(6, 11, 0));
    }

    private static void readOwnRows() {
        sentence(13, "(a CLASS's own ROWS may be read)");
        quiet("read(1, 3, 0)", 201, x -> x.read(1, 3, 0));
        quiet("read(2, 4, 3)", 43, x -> x.read(2, 4, 3));
        quiet("read(2, 0, 0)", 20, x -> x.read(2, 0, 0));
        faulty("read(2, 3, 0), which its PARENT has", "3/2/3", x -> x.read(2, 3, 0));
        faulty("read(2, 0, 1), which its PARENT has", "5/2/0", x -> x.read(2, 0, 1));
    }

    private static void readWithoutRow() {
        sentence(13, "FAULT 3 without such a ROW");
        for (int name : new int[] {1, 2, 5, 11, 12, 13, 15, 16, -1, MIN, MAX}) {
            faulty("read(5, " + name + ", 0)", "3/5/" + name, x -> x.read(5, name, 0));
            faulty("read(1, " + name + ", 0)", "3/1/" + name, x -> x.read(1, name, 0));
        }
        faulty("read(6, 10, 0)", "3/6/10", x -> x.read(6, 10, 0));
        faulty("read(6, 0, 0)", "3/6/0", x -> x.read(6, 0, 0));
        quiet("NAME 0", 20, x -> x.read(5, 0, 0));
        quiet("NAME 11", -6, x -> x.read(6, 11, 0));
    }

    private static void readWithoutValue() {
        sentence(13, "FAULT 5, if it has no VALUE i.");
        for (int many = 1; many <= 4; many++) {
            VeneerRows x = strict();
            x.object(0, 0);
            for (int i = 0; i < many; i++) {
                x.value(1, 6, i, 60 + i);
            }
            for (int i = 0; i < many; i++) {
                is("VALUE " + i + " of " + many, x.read(1, 6, i), 60 + i);
            }
            is("no fault", x.count(4), 0);
            for (int i : new int[] {-1, many, many + 1, 4, 48, -48, MIN, MAX}) {
                is("VALUE " + i + " of " + many, x.read(1, 6, i), 0);
            }
            is("faults", faults(x), "5/1/6 5/1/6 5/1/6 5/1/6 5/1/6 5/1/6 5/1/6 5/1/6");
        }
        faulty("read(5, 4, 4)", "5/5/4", x -> x.read(5, 4, 4));
        faulty("read(5, 4, -1)", "5/5/4", x -> x.read(5, 4, -1));
        faulty("read(1, 0, 2), of a CLASS", "5/1/0", x -> x.read(1, 0, 2));
    }

    private static void readOrder() {
        sentence(13, "FAULT 3 without such a ROW; FAULT 5, if it has no VALUE i.");
        faulty("1 ahead of 3 and 5", "1/0/12", x -> x.read(0, 12, 9));
        faulty("1 ahead of 5", "1/4/4", x -> x.read(4, 4, 9));
        faulty("3 ahead of 5", "3/5/5", x -> x.read(5, 5, 9));
        faulty("3 ahead of 5", "3/5/12", x -> x.read(5, 12, -1));
    }

    // ---- promise 14

    private static void writeOfWhat() {
        sentence(14, "WRITTEN, likewise.");
        for (int v : NO_THINGS) {
            faulty("write(" + v + ", 3, 0, 9)", "1/" + v + "/3", x -> x.write(v, 3, 0, 9));
        }
        faulty("a FREE one", "1/4/4", x -> x.write(4, 4, 0, 9));
        for (int v : new int[] {2, 3, 5}) {
            VeneerRows x = newHouse(1);
            is("write(" + v + ", 4, 0, 9)", x.write(v, 4, 0, 9), 9);
            is("write(" + v + ", 4, 3, 8)", x.write(v, 4, 3, 8), 8);
            for (int w : new int[] {2, 3, 5}) {
                is("its row alone", rowOf(x, w, 4), w == v ? "9 41 42 8" : "40 41 42 43");
            }
            is("no fault more", x.count(4), 1);
        }
    }

    private static void writeWithoutRow() {
        sentence(14, "FAULT 3 without such a ROW; FAULT 5, if it has no VALUE i. WRITTEN, likewise.");
        for (int name : new int[] {1, 2, 5, 11, 12, 15, 16, -1, MIN, MAX}) {
            faulty("write(5, " + name + ", 0, 9)", "3/5/" + name, x -> x.write(5, name, 0, 9));
            faulty("write(1, " + name + ", 0, 9)", "3/1/" + name, x -> x.write(1, name, 0, 9));
        }
        faulty("write(2, 3, 0, 9), which its PARENT has", "3/2/3", x -> x.write(2, 3, 0, 9));
        faulty("1 ahead of 3 and 5", "1/7/12", x -> x.write(7, 12, 9, 9));
        faulty("3 ahead of 5", "3/6/5", x -> x.write(6, 5, 9, 9));
    }

    private static void writeWithoutValue() {
        sentence(14, "FAULT 5, if it has no VALUE i. WRITTEN, likewise.");
        for (int i : new int[] {-1, 4, 5, MIN, MAX}) {
            faulty("write(5, 4, " + i + ", 9)", "5/5/4", x -> x.write(5, 4, i, 9));
            faulty("write(2, 4, " + i + ", 9)", "5/2/4", x -> x.write(2, 4, i, 9));
        }
        for (int i : new int[] {-1, 1, 2, 3, 4}) {
            faulty("write(6, 11, " + i + ", 9), there is one", "5/6/11", x -> x.write(6, 11, i, 9));
        }
    }

    private static void writeAnyInt() {
        sentence(14, "WRITTEN: v.");
        for (int v : new int[] {MIN, -1, 0, 1, MAX}) {
            VeneerRows x = newHouse(1);
            is("write(6, 11, 0, " + v + ")", x.write(6, 11, 0, v), v);
            is("read(6, 11, 0)", x.read(6, 11, 0), v);
            is("provides(6, 11)", x.provides(6, 11), 1);
            is("no fault more", x.count(4), 1);
        }
    }

    // ---- promise 15

    private static void moveWhat() {
        sentence(15, "FAULT 6, if a is no OBJECT that is THERE");
        for (int a : new int[] {0, 1, 2, 4, 7, 40, 41, -1, 101, 201, 301, MIN, MAX}) {
            faulty("move(" + a + ", 5)", "6/" + a + "/5", x -> x.move(a, 5));
            faulty("move(" + a + ", 0)", "6/" + a + "/0", x -> x.move(a, 0));
            faulty("move(" + a + ", " + a + ")", "6/" + a + "/" + a, x -> x.move(a, a));
        }
        is("move(3, 6)", newHouse(1).move(3, 6), 1);
        is("move(6, 3)", newHouse(1).move(6, 3), 1);
    }

    private static void moveToWhat() {
        sentence(15, "or b neither 0 nor one");
        for (int b : new int[] {1, 2, 4, 7, 40, 41, -1, 101, 201, 301, MIN, MAX}) {
            faulty("move(3, " + b + ")", "6/3/" + b, x -> x.move(3, b));
            faulty("move(5, " + b + ")", "6/5/" + b, x -> x.move(5, b));
        }
    }

    private static void moveIntoItself() {
        sentence(15, "FAULT 7, if b is a, or lies within a.");
        faulty("move(5, 5)", "7/5/5", x -> x.move(5, 5));
        faulty("move(3, 3)", "7/3/3", x -> x.move(3, 3));
        faulty("into its first CHILD", "7/5/3", x -> x.move(5, 3));
        faulty("into its last CHILD", "7/5/6", x -> x.move(5, 6));
        faulty("into a CHILD's CHILD", "7/5/6", x -> {
            house(x);
            x.move(6, 3);
        }, x -> x.move(5, 6));
        VeneerRows x = newHouse(1);
        is("to where it lies", x.move(3, 5), 1);
        is("to its SIBLING", x.move(3, 6), 1);
        is("to its PARENT's PARENT", x.move(3, 5), 1);
        is("no fault more", x.count(4), 1);
        VeneerRows y = strict();
        objects(y, 40);
        for (int k = 39; k >= 1; k--) {
            is("forty deep", y.move(k + 1, k), 1);
        }
        is("the hindmost, 39 below", y.move(1, 40), 0);
        is("the hindmost, 38 below", y.move(2, 40), 0);
        is("faults", faults(y), "7/1/40 7/2/40");
        is("the hindmost to the first", y.move(40, 1), 1);
        is("what lay in it, too", childrenOf(y, 1), "40 2");
    }

    private static void moveOrder() {
        sentence(15, "FAULT 6, if a is no OBJECT that is THERE, or b neither 0 nor one; FAULT 7, if b is a");
        faulty("a CLASS to itself", "6/1/1", x -> x.move(1, 1));
        faulty("a FREE one to itself", "6/4/4", x -> x.move(4, 4));
        faulty("0 to 0", "6/0/0", x -> x.move(0, 0));
    }

    private static void moveOut() {
        sentence(15, "MOVED, a to b (0: out)");
        VeneerRows x = newHouse(1);
        is("move(3, 0)", x.move(3, 0), 1);
        is("its PARENT", x.tree(3, 0), 0);
        is("its SIBLING", x.tree(3, 2), 0);
        is("the other", childrenOf(x, 5), "6");
        is("out again", x.move(3, 0), 1);
        is("the last one out", x.move(6, 0), 1);
        is("none", childrenOf(x, 5), "");
        is("in none", x.move(5, 0), 1);
        is("no fault more", x.count(4), 1);
        x.move(3, 5);
        is("with what lies in it", x.move(5, 0), 1);
        is("with what lies in it", x.tree(3, 0), 5);
    }

    private static void moveLastFirst() {
        sentence(15, "among its CHILDREN, the one that came there last first.");
        VeneerRows x = strict();
        objects(x, 5);
        String[] orders = {"2", "3 2", "4 3 2"};
        for (int k = 2; k <= 4; k++) {
            x.move(k, 1);
            is("with " + k, childrenOf(x, 1), orders[k - 2]);
        }
        x.move(2, 1);
        is("the last one again", childrenOf(x, 1), "2 4 3");
        x.move(4, 1);
        is("the middle one again", childrenOf(x, 1), "4 2 3");
        x.move(4, 1);
        is("the first one again", childrenOf(x, 1), "4 2 3");
        x.move(4, 5);
        is("the first one elsewhere", childrenOf(x, 1) + "," + childrenOf(x, 5), "2 3,4");
        x.move(3, 5);
        is("the last one elsewhere", childrenOf(x, 1) + "," + childrenOf(x, 5), "2,3 4");
    }

    private static void moveFull() {
        sentence(15, "MOVED: 1.");
        VeneerRows x = strict();
        objects(x, 40);
        for (int k = 2; k <= 40; k++) {
            is("move(" + k + ", 1)", x.move(k, 1), 1);
        }
        is("how many", x.tree(1, 3), 39);
        is("the first", x.tree(1, 1), 40);
        is("the last", x.tree(3, 2), 2);
        is("behind it", x.tree(2, 2), 0);
        is("the last one out", x.move(2, 0), 1);
        is("behind the last", x.tree(3, 2), 0);
        is("how many", x.tree(1, 3), 38);
        is("no fault", x.count(4), 0);
        VeneerRows y = strict();
        objects(y, 40);
        for (int k = 1; k <= 39; k++) {
            is("move(" + k + ", 40)", y.move(k, 40), 1);
        }
        is("how many", y.tree(40, 3), 39);
        is("the first", y.tree(40, 1), 39);
        is("the last", y.tree(2, 2), 1);
        is("its PARENT", y.tree(1, 0), 40);
        is("no fault", y.count(4), 0);
    }

    // ---- promise 16

    private static void treeOfWhat() {
        sentence(16, "PARENT, CHILD, SIBLING of what is no OBJECT that is THERE: FAULT 6.");
        for (int v : new int[] {0, 1, 2, 4, 7, 40, 41, -1, 101, 201, 301, MIN, MAX}) {
            for (int what : new int[] {0, 1, 2, 3}) {
                faulty("tree(" + v + ", " + what + ")", "6/" + v + "/0", x -> x.tree(v, what));
            }
        }
        quiet("tree(3, 0)", 5, x -> x.tree(3, 0));
        quiet("tree(6, 0)", 5, x -> x.tree(6, 0));
        quiet("tree(5, 1)", 3, x -> x.tree(5, 1));
        quiet("tree(3, 1)", 0, x -> x.tree(3, 1));
        quiet("tree(5, 3)", 2, x -> x.tree(5, 3));
    }

    private static void treeInNothing() {
        sentence(16, "(SIBLING of what lies in NOTHING: 0.)");
        VeneerRows x = strict();
        objects(x, 4);
        for (int v = 1; v <= 4; v++) {
            is("tree(" + v + ", 2)", x.tree(v, 2), 0);
            is("tree(" + v + ", 0)", x.tree(v, 0), 0);
        }
        x.move(2, 1);
        x.move(3, 1);
        x.move(3, 0);
        x.move(2, 0);
        for (int v = 1; v <= 4; v++) {
            is("moved out: tree(" + v + ", 2)", x.tree(v, 2), 0);
        }
        is("no fault", x.count(4), 0);
    }

    private static void treeOthers() {
        sentence(16, "what = 0 PARENT, 1 first CHILD, 2 SIBLING; else how many CHILDREN (FAULT 6 likewise).");
        VeneerRows x = strict();
        objects(x, 9);
        x.move(1, 7);
        for (int k = 2; k <= 5; k++) {
            x.move(k, 1);
        }
        x.move(6, 7);
        x.move(1, 7);
        is("PARENT", x.tree(1, 0), 7);
        is("CHILD", x.tree(1, 1), 5);
        is("SIBLING", x.tree(1, 2), 6);
        for (int what : new int[] {3, 4, -1, -2, 256, MIN, MAX}) {
            is("tree(1, " + what + ")", x.tree(1, what), 4);
            is("tree(2, " + what + ")", x.tree(2, what), 0);
        }
        is("no fault", x.count(4), 0);
        for (int what : new int[] {3, 4, -1, MIN, MAX}) {
            faulty("tree(4, " + what + ")", "6/4/0", y -> y.tree(4, what));
            faulty("tree(0, " + what + ")", "6/0/0", y -> y.tree(0, what));
        }
    }

    private static void treeSibling() {
        sentence(16, "its SIBLING (the next one of its PARENT's CHILDREN)");
        VeneerRows x = newHouse(1);
        is("of the first", x.tree(3, 2), 6);
        is("of the last", x.tree(6, 2), 0);
        x.move(6, 5);
        is("of the first", x.tree(6, 2), 3);
        is("of the last", x.tree(3, 2), 0);
        x.move(6, 3);
        is("of the only one", x.tree(3, 2) + x.tree(6, 2), 0);
    }

    // ---- promise 17

    private static void loopOfWhat() {
        sentence(17, "FAULT 6: no OBJECT that is THERE; then FAULT 13: no ROUTINE.");
        for (int v : new int[] {0, 1, 2, 4, 7, 40, 41, -1, 101, 201, 301, MIN, MAX}) {
            faulty("loop(" + v + ", 202)", "6/" + v + "/0", x -> x.loop(v, 202));
        }
        for (int r : new int[] {0, 1, 5, 101, 200, 203, 220, 221, 301, -1, MIN, MAX}) {
            faulty("loop(5, " + r + ")", "13/5/" + r, x -> x.loop(5, r));
            faulty("loop(3, " + r + "), without CHILDREN", "13/3/" + r, x -> x.loop(3, r));
        }
        quiet("loop(5, 201), the first ROUTINE", 2, x -> x.loop(5, 201));
        VeneerRows x = newHouse(1);
        x.clear();
        is("loop(5, 202), the last ROUTINE", x.loop(5, 202), 2);
        is("loop(5, 202)", said(x), "(3)(6)");
    }

    private static void loopOrder() {
        sentence(17, "then FAULT 13: no ROUTINE.");
        faulty("both", "6/0/0", x -> x.loop(0, 0));
        faulty("both", "6/4/0", x -> x.loop(4, 203));
        faulty("both", "6/1/0", x -> x.loop(1, -1));
        VeneerRows x = newHouse(1);
        x.value(5, 9, 0, 201);
        x.send(5, 9, 0);
        is("acts ahead", x.count(6), 2);
        x.loop(0, 201);
        is("a LOOP with FAULT 6 is the latest", x.count(6), 0);
        x.send(5, 9, 0);
        x.loop(5, 0);
        is("a LOOP with FAULT 13 is the latest", x.count(6), 0);
    }

    private static void loopEmpty() {
        sentence(17, "A LOOP: how many CHILDREN went.");
        quiet("none", 0, x -> x.loop(3, 202));
        for (int many : new int[] {0, 1, 2, 39}) {
            VeneerRows x = strict();
            objects(x, 40);
            for (int k = 2; k <= 1 + many; k++) {
                x.move(k, 1);
            }
            is(many + " CHILDREN", x.loop(1, routineOf(x, a(2), a(12))), many);
            is("acts", x.count(6), 2 * many);
            is("no fault", x.count(4), 0);
        }
    }

    private static void loopArguments() {
        sentence(17, "the ROUTINE is RUN with the CHILD as SELF, the OBJECT as the ARGUMENT");
        VeneerRows x = newHouse(1);
        x.clear();
        is("loop", x.loop(5, routineOf(x, a(2), a(13), a(1), a(13, 3))), 2);
        is("from its first one on", said(x), "(3)The owl(6)The owl");
    }

    private static void loopNextAhead() {
        sentence(17, "from its first one on, let n be its SIBLING; the ROUTINE is RUN");
        // In 1 lie 5, 4, 3, 2; where each one goes itself, n is still what was its SIBLING ahead of that.
        for (int to : new int[] {0, 1, 6}) {
            VeneerRows x = strict();
            objects(x, 6);
            for (int k = 2; k <= 5; k++) {
                x.move(k, 1);
            }
            is("each one goes to " + to, x.loop(1, routineOf(x, a(2), a(13), a(0, to), a(8))), 4);
            is("each one goes to " + to, said(x), "(5)(4)(3)(2)");
            is("each one goes to " + to, faults(x), "");
            is("then", childrenOf(x, 1), to == 1 ? "2 3 4 5" : "");
            is("then", childrenOf(x, 6), to == 6 ? "2 3 4 5" : "");
        }
        VeneerRows y = strict();
        // 6 comes ahead of the first one: it is never an n, and does not go.
        objects(y, 6);
        for (int k = 2; k <= 5; k++) {
            y.move(k, 1);
        }
        y.value(6, 3, 0, routineOf(y, a(0, 1), a(8)));
        is("one comes meanwhile", y.loop(1, routineOf(y, a(2), a(13), a(0, 6), a(6, 3, 0))), 4);
        is("one comes meanwhile", said(y), "(5)(4)(3)(2)");
        is("then", childrenOf(y, 1), "6 5 4 3 2");
    }

    private static void loopBroken() {
        sentence(17, "if n is not 0, and lies in the OBJECT no more, the LOOP is BROKEN: FAULT 11, and it ends");
        // In 1 lie 5, 4, 3, 2; each one's routine sends name 3 to its sibling, by which that moves to 6.
        for (int to = 0; to <= 6; to += 6) {
            VeneerRows x = strict();
            objects(x, 6);
            int go = routineOf(x, a(0, to), a(8));
            for (int k = 2; k <= 5; k++) {
                x.move(k, 1);
                x.value(k, 3, 0, go);
            }
            is("broken", x.loop(1, routineOf(x, a(2), a(11), a(12), a(6, 3, 0))), 1);
            is("n goes to " + to, faults(x), "11/4/0");
            is("n goes to " + to, childrenOf(x, 1), "5 3 2");
        }
        VeneerRows x = strict();
        // In 1 lie 4, 3, 2; 4 puts 3, which is n, ahead of itself: 4, 3, 4 again and 2 go.
        objects(x, 4);
        for (int k = 2; k <= 4; k++) {
            x.move(k, 1);
            x.value(k, 5, 0, 0);
        }
        x.value(3, 3, 0, routineOf(x, a(0, 1), a(8)));
        x.value(4, 5, 0, routineOf(x, a(0, 3), a(6, 3, 0)));
        is("n lies in it still, elsewhere", x.loop(1, routineOf(x, a(2), a(6, 5, 0))), 4);
        is("no fault", x.count(4), 0);
        VeneerRows y = strict();
        // The child goes, its sibling stays.
        objects(y, 4);
        for (int k = 2; k <= 4; k++) {
            y.move(k, 1);
        }
        is("the CHILD itself goes", y.loop(1, routineOf(y, a(0, 0), a(8))), 3);
        is("no fault", y.count(4), 0);
        is("none is left", y.tree(1, 3), 0);
    }

    private static void loopBrokenLater() {
        sentence(17, "FAULT 11, and it ends; else it goes on with n");
        // In 1 lie 5, 4, 3, 2; the one in question sends its sibling out, the others do nothing.
        for (int breaker = 2; breaker <= 5; breaker++) {
            VeneerRows x = strict();
            objects(x, 5);
            int out = routineOf(x, a(0, 0), a(8));
            int send = routineOf(x, a(2), a(11), a(12), a(6, 3, 0));
            for (int k = 2; k <= 5; k++) {
                x.move(k, 1);
                x.value(k, 3, 0, out);
                x.value(k, 5, 0, k == breaker ? send : 0);
            }
            is(breaker + " breaks it", x.loop(1, routineOf(x, a(2), a(6, 5, 0))), breaker == 2 ? 4 : 6 - breaker);
            is(breaker + " breaks it", faults(x), breaker == 2 ? "" : "11/" + (breaker - 1) + "/0");
            is(breaker + " breaks it", x.tree(1, 3), breaker == 2 ? 4 : 3);
        }
    }

    private static void loopBrokenByEnd() {
        sentence(17, "and lies in the OBJECT no more");
        VeneerRows x = strict();
        x.group(0, 0, 3);
        for (int k = 2; k <= 4; k++) {
            x.send(1, 12, 0);
        }
        x.move(2, 4);
        x.move(3, 4);
        is("the OBJECT is destroyed", x.loop(4, routineOf(x, a(0, 1), a(6, 13, 4))), 1);
        is("the OBJECT is destroyed", faults(x), "11/2/0");
        x.send(1, 12, 0);
        x.move(2, 4);
        x.move(3, 4);
        is("n is destroyed", x.loop(4, routineOf(x, a(0, 1), a(6, 13, 2))), 1);
        is("n is destroyed", faults(x), "11/2/0 11/2/0");
    }

    private static void loopLastOne() {
        sentence(17, "if n is not 0, and lies in the OBJECT no more");
        VeneerRows x = strict();
        x.group(0, 0, 2);
        x.send(1, 12, 0);
        x.send(1, 12, 0);
        x.move(3, 2);
        is("the last one destroys the OBJECT", x.loop(2, routineOf(x, a(0, 1), a(6, 13, 2))), 1);
        is("n is 0: no fault", x.count(4), 0);
        is("it is gone", x.meta(2), 0);
    }

    private static void loopFull() {
        sentence(17, "else it goes on with n; 40 CHILDREN at most.");
        VeneerRows x = strict();
        // 2 and 3 lie in 1; each one puts its sibling ahead of itself, so that there is always one more.
        objects(x, 3);
        x.move(2, 1);
        x.move(3, 1);
        int ahead = routineOf(x, a(1), a(8));
        x.value(2, 3, 0, ahead);
        x.value(3, 3, 0, ahead);
        int turn = routineOf(x, a(2), a(11), a(6, 3, 1));
        is("no end of CHILDREN", x.loop(1, turn), 40);
        is("acts", x.count(6), 200);
        is("no fault", x.count(4), 0);
        VeneerRows y = strict();
        objects(y, 40);
        for (int k = 2; k <= 40; k++) {
            y.move(k, 1);
        }
        is("39", y.loop(1, y.routine()), 39);
    }

    // ---- promise 18

    private static void metaOfNumbers() {
        sentence(18, "META of a number: 1 a CLASS, 2 an OBJECT that is THERE, 3 a TEXT, 4 a ROUTINE, 5 an "
            + "ARRAY; else 0.");
        int[][] metas = {{1, 1}, {2, 1}, {3, 2}, {4, 0}, {5, 2}, {6, 2}, {7, 0}, {0, 0}, {-1, 0}, {40, 0}, {41, 0},
            {100, 0}, {101, 3}, {102, 3}, {103, 0}, {120, 0}, {200, 0}, {201, 4}, {202, 4}, {203, 0}, {300, 0},
            {301, 5}, {302, 0}, {MIN, 0}, {MAX, 0}, {MIN + 1, 0}, {-101, 0}};
        for (int[] m : metas) {
            quiet("meta(" + m[0] + ")", m[1], x -> x.meta(m[0]));
        }
        VeneerRows x = newHouse(1);
        x.send(2, 12, 0);
        is("created", x.meta(4), 2);
        x.send(2, 13, 4);
        is("destroyed", x.meta(4), 0);
        VeneerRows y = strict();
        for (int k = 1; k <= 20; k++) {
            y.text();
            y.routine();
        }
        for (int k = 1; k <= 10; k++) {
            y.array(1);
        }
        objects(y, 40);
        is("the last ones", "" + y.meta(40) + y.meta(120) + y.meta(220) + y.meta(310), "2345");
        is("behind them", y.meta(41) + y.meta(121) + y.meta(221) + y.meta(311), 0);
        is("ahead of them", y.meta(0) + y.meta(100) + y.meta(200) + y.meta(300), 0);
    }

    // ---- promise 19

    private static void isOfWhat() {
        sentence(19, "1, 0 (of other numbers 0, no FAULT).");
        for (int v : new int[] {0, 1, 2, 4, 6, 7, 41, -1, 101, 201, 301, MIN, MAX}) {
            quiet("isOf(" + v + ", 2)", 0, x -> x.isOf(v, 2));
            quiet("isOf(" + v + ", 1)", 0, x -> x.isOf(v, 1));
        }
        for (int group : new int[] {0, 3, 4, 5, 6, 7, 41, -1, 101, 201, 301, MIN, MAX}) {
            quiet("isOf(5, " + group + ")", 0, x -> x.isOf(5, group));
            quiet("isOf(6, " + group + ")", 0, x -> x.isOf(6, group));
        }
        quiet("isOf(0, 0)", 0, x -> x.isOf(0, 0));
    }

    private static void isOfLine() {
        sentence(19, "It IS OF the CLASSES of its LINE.");
        quiet("its CLASS", 1, x -> x.isOf(5, 2));
        quiet("that one's PARENT", 1, x -> x.isOf(5, 1));
        quiet("one of a POOL", 1, x -> x.isOf(3, 2));
        quiet("one of a POOL", 1, x -> x.isOf(3, 1));
        VeneerRows x = strict();
        for (int k = 1; k <= 39; k++) {
            x.group(k - 1, 0, 0);
        }
        x.object(38, 0);
        for (int k = 1; k <= 39; k++) {
            is("thirty-eight of them: " + k, x.isOf(40, k), k <= 38 ? 1 : 0);
        }
    }

    // ---- promise 20

    private static void providesWhat() {
        sentence(20, "0 also of what is none (no FAULT).");
        for (int v : NO_THINGS) {
            quiet("provides(" + v + ", 4)", 0, x -> x.provides(v, 4));
        }
        quiet("provides(4, 0), a FREE one with that ROW", 0, x -> {
            house(x);
            x.value(4, 9, 0, 1);
        }, x -> x.provides(4, 9));
        quiet("provides(2, 4)", 4, x -> x.provides(2, 4));
        quiet("provides(3, 4)", 4, x -> x.provides(3, 4));
        quiet("provides(6, 11)", 1, x -> x.provides(6, 11));
    }

    private static void providesNames() {
        sentence(20, "How many VALUES a THING (META 1, 2) has of a NAME");
        for (int name : new int[] {-1, 1, 12, 13, 14, 15, 16, MIN, MAX}) {
            quiet("provides(5, " + name + ")", 0, x -> x.provides(5, name));
            quiet("provides(2, " + name + ")", 0, x -> x.provides(2, name));
        }
        quiet("provides(2, 3), which its PARENT has", 0, x -> x.provides(2, 3));
        quiet("provides(5, 0)", 3, x -> x.provides(5, 0));
    }

    private static void providesMany() {
        sentence(20, "How many VALUES a THING (META 1, 2) has");
        VeneerRows x = strict();
        x.group(0, 0, 0);
        x.object(1, 0);
        for (int many = 0; many <= 4; many++) {
            is("a CLASS, " + many, x.provides(1, 11), many);
            is("an OBJECT, " + many, x.provides(2, 0), many);
            x.value(1, 11, many, 0);
            x.value(2, 0, many, 0);
        }
        is("no more", x.provides(1, 11) + x.provides(2, 0), 8);
    }

    // ---- promises 21 to 23

    private static final int[] NO_ARRAYS = {300, 302, 310, 311, 0, 1, 5, -1, 101, 201, MIN, MAX};

    private static void wordOfWhat() {
        sentence(21, "WORD i of an ARRAY. FAULT 14: no ARRAY; 12.");
        for (int v : NO_ARRAYS) {
            faulty("word(" + v + ", 1)", "14/" + v + "/1", x -> x.word(v, 1));
            faulty("word(" + v + ", -1), 14 ahead of 12", "14/" + v + "/-1", x -> x.word(v, -1));
        }
        VeneerRows x = strict();
        faulty("none yet", "14/301/0", y -> { }, y -> y.word(301, 0));
        for (int k = 301; k <= 310; k++) {
            x.array(1);
            x.setWord(k, 0, k);
        }
        is("the first", x.word(301, 0), 301);
        is("the last", x.word(310, 0), 310);
        is("no fault", x.count(4), 0);
        is("behind it", x.word(311, 0), 0);
        is("behind it", faults(x), "14/311/0");
    }

    private static void wordBeyond() {
        sentence(21, "Beyond these: FAULT 12.");
        for (int i : new int[] {-1, 3, 4, 10, -3, MIN, MAX}) {
            faulty("word(301, " + i + ")", "12/301/" + i, x -> x.word(301, i));
        }
        quiet("word(301, 0)", 0x01020384, x -> x.word(301, 0));
        quiet("word(301, 2)", MIN, x -> x.word(301, 2));
        VeneerRows x = strict();
        x.array(10);
        x.array(1);
        is("the last of ten", x.word(301, 9), 0);
        is("the last of one", x.word(302, 0), 0);
        is("no fault", x.count(4), 0);
        is("beyond ten", x.word(301, 10), 0);
        is("beyond one", x.word(302, 1), 0);
        is("faults", faults(x), "12/301/10 12/302/1");
    }

    private static void setWordOfWhat() {
        sentence(22, "WORD i becomes v: v. FAULTS likewise.");
        for (int v : NO_ARRAYS) {
            faulty("setWord(" + v + ", 1, 9)", "14/" + v + "/1", x -> x.setWord(v, 1, 9));
            faulty("setWord(" + v + ", 99, 9), 14 ahead of 12", "14/" + v + "/99", x -> x.setWord(v, 99, 9));
        }
        for (int v : new int[] {MIN, -1, 0, 1, MAX}) {
            VeneerRows x = newHouse(1);
            is("setWord(301, 1, " + v + ")", x.setWord(301, 1, v), v);
            is("word(301, 1)", x.word(301, 1), v);
            is("the others", x.word(301, 0) == 0x01020384 && x.word(301, 2) == MIN ? 1 : 0, 1);
            is("no fault more", x.count(4), 1);
        }
    }

    private static void setWordBeyond() {
        sentence(22, "FAULTS likewise.");
        for (int i : new int[] {-1, 3, 4, 10, MIN, MAX}) {
            faulty("setWord(301, " + i + ", 9)", "12/301/" + i, x -> x.setWord(301, i, 9));
        }
        VeneerRows x = newHouse(1);
        is("setWord(301, 0, 9)", x.setWord(301, 0, 9), 9);
        is("setWord(301, 2, 8)", x.setWord(301, 2, 8), 8);
        is("words", x.word(301, 0) + "," + x.word(301, 1) + "," + x.word(301, 2), "9,0,8");
        is("no fault more", x.count(4), 1);
    }

    private static void byteOfWhat() {
        sentence(23, "BYTE i, 0 .. 255. FAULTS likewise.");
        for (int v : NO_ARRAYS) {
            faulty("byteOf(" + v + ", 1)", "14/" + v + "/1", x -> x.byteOf(v, 1));
            faulty("byteOf(" + v + ", -5), 14 ahead of 12", "14/" + v + "/-5", x -> x.byteOf(v, -5));
        }
        VeneerRows x = strict();
        x.array(1);
        int[][] words = {{0, 0}, {-1, 255}, {0x7F7F7F7F, 127}, {0x80808080, 128}, {0x01010101, 1}, {0xFEFEFEFE, 254}};
        for (int[] w : words) {
            x.setWord(301, 0, w[0]);
            for (int i = 0; i < 4; i++) {
                is("byte " + i + " of " + w[0], x.byteOf(301, i), w[1]);
            }
        }
    }

    private static void byteBeyond() {
        sentence(23, "and so on. Beyond these: FAULT 12.");
        for (int i : new int[] {-1, -2, -3, -4, -5, 12, 13, 40, MIN, MIN + 1, MAX}) {
            faulty("byteOf(301, " + i + ")", "12/301/" + i, x -> x.byteOf(301, i));
        }
        quiet("the first", 1, x -> x.byteOf(301, 0));
        quiet("the last", 0, x -> x.byteOf(301, 11));
        for (int words = 1; words <= 10; words++) {
            VeneerRows x = strict();
            x.array(words);
            x.setWord(301, words - 1, 77);
            is("the last of " + words + " words", x.byteOf(301, 4 * words - 1), 77);
            is("no fault", x.count(4), 0);
            is("beyond them", x.byteOf(301, 4 * words), 0);
            is("beyond them", faults(x), "12/301/" + 4 * words);
        }
    }

    private static void byteOrder() {
        sentence(23, "BYTE i is the highest byte of WORD i / 4 for i % 4 of 0, the one below for 1, and so on.");
        VeneerRows x = strict();
        x.array(10);
        for (int k = 0; k < 10; k++) {
            x.setWord(301, k, (0xF0 + k) << 24 | (16 + k) << 16 | (32 + k) << 8 | 0x80 + k);
        }
        int[] firsts = {0xF0, 16, 32, 0x80};
        for (int i = 0; i < 40; i++) {
            is("byteOf(301, " + i + ")", x.byteOf(301, i), firsts[i % 4] + i / 4);
        }
    }

    // ---- promise 24

    private static void nameOf0() {
        sentence(24, "of 0 \"nothing\"");
        for (int article = -1; article <= 4; article++) {
            VeneerRows x = newHouse(1);
            is("article " + article, nameOf(x, 0, article), "nothing");
            is("no fault more", x.count(4), 1);
        }
        is("with no THING", nameOf(strict(), 0, 0), "nothing");
    }

    private static void nameOfNone() {
        sentence(24, "of what is no THING \"(none)\"");
        for (int v : new int[] {4, 7, 40, 41, -1, -5, 100, 101, 201, 301, MIN, MAX}) {
            for (int article = 0; article <= 3; article += 3) {
                VeneerRows x = newHouse(1);
                is("name(" + v + ", " + article + ")", nameOf(x, v, article), "(none)");
                is("no fault more", x.count(4), 1);
            }
        }
        is("name(1, 0) with no THING", nameOf(strict(), 1, 0), "(none)");
    }

    private static void nameOfClass() {
        sentence(24, "of a CLASS first \"class \"");
        for (int article = -1; article <= 4; article++) {
            VeneerRows x = newHouse(1);
            is("without a TEXT", nameOf(x, 1, article), "class (1)");
            is("PROPER", nameOf(x, 2, article), "class Box");
            x.called(2, 101, false);
            is("not PROPER", nameOf(x, 2, article), "class owl");
        }
    }

    private static void nameWithoutText() {
        sentence(24, "then, without a TEXT, its number between \"(\" and \")\"");
        VeneerRows x = strict();
        objects(x, 40);
        for (int v : new int[] {1, 9, 10, 11, 19, 20, 39, 40}) {
            for (int article = 0; article <= 3; article++) {
                is("name(" + v + ", " + article + ")", nameOf(x, v, article), "(" + v + ")");
            }
        }
        VeneerRows y = strict();
        for (int k = 1; k <= 40; k++) {
            y.group(0, 0, 0);
        }
        is("of CLASSES", nameOf(y, 9, 0) + nameOf(y, 10, 1) + nameOf(y, 40, 2), "class (9)class (10)class (40)");
    }

    private static void nameArticles() {
        sentence(24, "article 1 puts \"the \", 2 \"an \", if the TEXT begins with a e i o u, small or great, "
            + "else \"a \", 3 \"The \".");
        VeneerRows x = newHouse(1);
        is("article 1", nameOf(x, 5, 1), "the owl");
        is("article 2", nameOf(x, 5, 2), "an owl");
        is("article 3", nameOf(x, 5, 3), "The owl");
        x.called(5, 102, false);
        is("article 1", nameOf(x, 5, 1), "the Box");
        is("article 2", nameOf(x, 5, 2), "a Box");
        is("article 3", nameOf(x, 5, 3), "The Box");
    }

    private static void nameVowels() {
        sentence(24, "if the TEXT begins with a e i o u, small or great, else \"a \"");
        for (int c = 32; c <= 126; c++) {
            VeneerRows x = strict();
            x.object(0, 0);
            x.letter(c);
            x.letter('e');
            x.called(1, x.text(), false);
            boolean vowel = "aeiouAEIOU".indexOf(c) >= 0;
            is("byte " + c, nameOf(x, 1, 2), (vowel ? "an " : "a ") + (char) c + "e");
        }
        VeneerRows x = strict();
        x.object(0, 0);
        x.called(1, x.text(), false);
        is("an empty one", nameOf(x, 1, 2), "a ");
        x.letter('o');
        x.called(1, x.text(), false);
        is("one letter", nameOf(x, 1, 2), "an o");
    }

    private static void nameOtherArticles() {
        sentence(24, "with an article 0 .. 3 (others: as 0)");
        for (int article : new int[] {0, -1, 4, 5, -2, 256 + 1, MIN, MAX}) {
            VeneerRows x = newHouse(1);
            is("article " + article, nameOf(x, 5, article), "owl");
        }
    }

    private static void nameProper() {
        sentence(24, "(but not of a PROPER THING's, and of a CLASS's)");
        for (int article = 0; article <= 3; article++) {
            VeneerRows x = newHouse(1);
            x.called(5, 101, true);
            is("article " + article, nameOf(x, 5, article), "owl");
            x.called(5, 0, true);
            is("without a TEXT", nameOf(x, 5, article), "(5)");
        }
    }

    private static void nameBytes() {
        sentence(24, "how many bytes OUT has then.");
        VeneerRows x = newHouse(1);
        is("behind the 7 that it has", x.name(5, 2), 13);
        is("name(0, 0)", x.name(0, 0), 20);
        is("name(4, 0)", x.name(4, 0), 26);
        is("name(1, 0)", x.name(1, 0), 35);
        is("out", said(x), "the owlan owlnothing(none)class (1)");
        x.clear();
        x.called(5, textOf(x, "abcdefghijklmnopqr"), false);
        is("the longest: two letters stood in the draft", x.name(5, 3), 24);
        is("the longest", said(x), "The drabcdefghijklmnopqr");
    }
}
