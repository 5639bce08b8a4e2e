/** Promises 1 to 10, and what the terms say of what is built: a test for each sentence that names an edge. */
public final class EdgesBuiltTest extends Edges {
    public static void main(String[] args) {
        strictIfNot0();
        nothingAtFirst();
        letterBytes();
        letterFull();
        letterOrder();
        textOfDraft();
        emptyText();
        textNumbers();
        textFull();
        routineNumbers();
        routineFull();
        newRoutine();
        actOfWhat();
        actKinds();
        actFull();
        actOrder();
        actNumbers();
        groupOfWhat();
        groupPool();
        groupFull();
        groupFullForPool();
        groupOrder();
        groupSameTwice();
        groupNoParents();
        poolBehindClass();
        objectOfWhat();
        objectFull();
        objectOrder();
        objectSameTwice();
        lineOfClass();
        lineOfObject();
        rowOfFirstClass();
        rowOfName0();
        rowsLater();
        valueOfWhat();
        valueNames();
        valuePlaces();
        valueGrows();
        valueFull();
        valueAnyInt();
        valueOrder();
        arrayWords();
        arrayFull();
        arrayOrder();
        arrayAtFirst0();
        calledWhat();
        calledText();
        calledNone();
        calledProper();
        end(1, 10);
    }

    private static String nameOf(VeneerRows x, int v, int article) {
        x.clear();
        x.name(v, article);
        return said(x);
    }

    // ---- promise 1

    private static void strictIfNot0() {
        sentence(1, "STRICT, if strict is not 0");
        for (int strict : new int[] {1, -1, 2, 256, 1 << 16, MIN, MAX}) {
            VeneerRows x = new VeneerRows(strict);
            x.send(0, 0, 0);
            is("strict " + strict, faults(x), "1/0/0");
        }
        VeneerRows lax = new VeneerRows(0);
        lax.send(0, 0, 0);
        is("strict 0", faults(lax), "");
    }

    private static void nothingAtFirst() {
        sentence(1, "there is nothing");
        for (int strict = 0; strict <= 1; strict++) {
            VeneerRows x = new VeneerRows(strict);
            for (int what = 0; what <= 7; what++) {
                is("count(" + what + ")", x.count(what), 0);
            }
            for (int v : new int[] {0, 1, 2, 101, 201, 301}) {
                is("meta(" + v + ")", x.meta(v), 0);
            }
            is("out(0)", x.out(0), NONE);
            is("fault(0, 0)", x.fault(0, 0), NONE);
            is("clear()", x.clear(), 0);
        }
    }

    // ---- promise 2

    private static void letterBytes() {
        sentence(2, "A byte 32 .. 126 comes behind THE DRAFT");
        for (int c : new int[] {31, 127, 0, -1, 128, 255, 256 + 'a', -256 + 'a', MIN, MAX}) {
            refused("letter(" + c + ")", OUTSIDE, x -> x.letter(c));
        }
        VeneerRows x = strict();
        is("letter(32)", x.letter(32), 1);
        is("letter(126)", x.letter(126), 2);
        is("letter(33)", x.letter(33), 3);
        is("letter(125)", x.letter(125), 4);
        x.object(0, 0);
        x.called(1, x.text(), true);
        is("its name", nameOf(x, 1, 0), " ~!}");
    }

    private static void letterFull() {
        sentence(2, "THE DRAFT (20 at most): how many it has");
        VeneerRows x = strict();
        for (int k = 1; k <= 20; k++) {
            is("letter " + k, x.letter('a' + k), k);
        }
        is("the 21st", x.letter('z'), ROOM);
        is("the 22nd", x.letter('z'), ROOM);
        is("count(7)", x.count(7), 20);
        x.object(0, 0);
        x.called(1, x.text(), true);
        is("its name", nameOf(x, 1, 0), "bcdefghijklmnopqrstu");
        is("the first of the next", x.letter('z'), 1);
        refused("letter(97) with 20", ROOM, y -> {
            house(y);
            letters(y, "abcdefghijklmnopqr");
        }, y -> y.letter(97));
    }

    private static void letterOrder() {
        sentence(2, "how many it has. OUTSIDE; ROOM.");
        for (int c : new int[] {31, 127}) {
            refused("letter(" + c + ") with 20", OUTSIDE, x -> {
                house(x);
                letters(x, "abcdefghijklmnopqr");
            }, x -> x.letter(c));
        }
    }

    // ---- promise 3

    private static void textOfDraft() {
        sentence(3, "THE DRAFT, empty then, is a TEXT: its number.");
        VeneerRows x = strict();
        x.object(0, 0);
        letters(x, "ab");
        is("text()", x.text(), 101);
        is("count(7)", x.count(7), 0);
        is("letter(99)", x.letter('c'), 1);
        is("text()", x.text(), 102);
        x.called(1, 101, true);
        is("the first", nameOf(x, 1, 0), "ab");
        x.called(1, 102, true);
        is("the second", nameOf(x, 1, 0), "c");
    }

    private static void emptyText() {
        sentence(3, "THE DRAFT, empty then, is a TEXT");
        VeneerRows x = strict();
        x.object(0, 0);
        is("text() of an empty one", x.text(), 101);
        is("meta(101)", x.meta(101), 3);
        x.called(1, 101, true);
        is("its name has no bytes", x.name(1, 1), 0);
        x.called(1, 101, false);
        is("but it is a TEXT, with an article", nameOf(x, 1, 1), "the ");
        x.value(1, 3, 0, 101);
        is("sent", x.send(1, 3, 0), 1);
    }

    private static void textNumbers() {
        sentence(3, "TEXTS have 101 .. 120");
        VeneerRows x = strict();
        is("meta(101) ahead", x.meta(101), 0);
        for (int k = 101; k <= 120; k++) {
            is("text()", x.text(), k);
            is("meta(" + k + ")", x.meta(k), 3);
            is("meta of the next", x.meta(k + 1), 0);
        }
        is("the 21st", x.text(), ROOM);
        is("meta(100)", x.meta(100), 0);
        is("meta(121)", x.meta(121), 0);
    }

    private static void textFull() {
        sentence(3, "ROOM (THE DRAFT stays).");
        VeneerRows x = strict();
        for (int k = 101; k <= 120; k++) {
            x.text();
        }
        letters(x, "abc");
        is("the 21st", x.text(), ROOM);
        is("count(1)", x.count(1), 20);
        is("count(7)", x.count(7), 3);
        is("letter(100)", x.letter('d'), 4);
        refused("text() with 20", ROOM, y -> {
            y.object(0, 0);
            for (int k = 0; k < 20; k++) {
                textOf(y, k % 2 == 0 ? "" : "T");
            }
            letters(y, "abc");
        }, y -> y.text());
    }

    // ---- promise 4

    private static void routineNumbers() {
        sentence(4, "ROUTINES 201 .. 220");
        VeneerRows x = strict();
        is("meta(201) ahead", x.meta(201), 0);
        for (int k = 201; k <= 220; k++) {
            is("routine()", x.routine(), k);
            is("meta(" + k + ")", x.meta(k), 4);
            is("meta of the next", x.meta(k + 1), 0);
        }
        is("the 21st", x.routine(), ROOM);
        is("meta(200)", x.meta(200), 0);
        is("meta(221)", x.meta(221), 0);
    }

    private static void routineFull() {
        sentence(4, "A ROUTINE: its number. ROOM.");
        VeneerRows x = strict();
        for (int k = 201; k <= 220; k++) {
            x.routine();
        }
        is("the 21st", x.routine(), ROOM);
        is("count(2)", x.count(2), 20);
        is("act(220, ..)", x.act(220, 0, 0, 0), 1);
        is("act(221, ..)", x.act(221, 0, 0, 0), UNKNOWN);
        refused("routine() with 20", ROOM, y -> {
            y.object(0, 0);
            for (int k = 1; k <= 20; k++) {
                routineOf(y, a(3, k));
            }
        }, y -> y.routine());
    }

    private static void newRoutine() {
        sentence(4, "RUN, its RESULT is 0 at first");
        VeneerRows x = strict();
        x.object(0, 0);
        x.value(1, 3, 0, x.routine());
        is("without an ACT", x.send(1, 3, 77), 0);
        is("count(6)", x.count(6), 0);
        is("the first ACT", x.act(201, 3, 4, 0), 1);
        is("0 and 4 more", x.send(1, 3, 77), 4);
        is("again from 0", x.send(1, 3, 77), 4);
    }

    // ---- promise 5

    private static void actOfWhat() {
        sentence(5, "An ACT 0 .. 14 behind a ROUTINE's others: how many. UNKNOWN");
        for (int r : new int[] {200, 203, 220, 221, 0, 1, 5, -1, 101, 301, MIN, MAX}) {
            refused("act(" + r + ", 0, 1, 1)", UNKNOWN, x -> x.act(r, 0, 1, 1));
        }
        VeneerRows x = newHouse(1);
        is("act(201, ..)", x.act(201, 0, 8, 0), 3);
        is("act(202, ..)", x.act(202, 0, 9, 0), 3);
        x.value(6, 1, 0, 201);
        is("behind the others", x.send(6, 1, 0), 8);
        x.value(6, 1, 0, 202);
        is("behind the others", x.send(6, 1, 0), 9);
    }

    private static void actKinds() {
        sentence(5, "An ACT 0 .. 14");
        for (int op : new int[] {-1, 15, 16, -15, 256, MIN, MAX}) {
            refused("act(201, " + op + ", 1, 1)", OUTSIDE, x -> x.act(201, op, 1, 1));
        }
        for (int op = 0; op <= 14; op++) {
            is("act(201, " + op + ", 1, 1)", newHouse(1).act(201, op, 1, 1), 3);
        }
    }

    private static void actFull() {
        sentence(5, "A ROUTINE has up to 8 ACTS");
        VeneerRows x = strict();
        x.object(0, 0);
        x.value(1, 3, 0, x.routine());
        for (int k = 1; k <= 8; k++) {
            is("act " + k, x.act(201, 3, 1 << k, 0), k);
        }
        is("the 9th", x.act(201, 3, 1 << 9, 0), ROOM);
        is("all 8 are done", x.send(1, 3, 0), 510);
        is("count(6)", x.count(6), 8);
        is("another one has its own", x.act(x.routine(), 3, 1, 0), 1);
        refused("the 9th", ROOM, y -> {
            house(y);
            for (int k = 3; k <= 8; k++) {
                y.act(201, 3, k, 0);
            }
        }, y -> y.act(201, 3, 9, 0));
    }

    private static void actOrder() {
        sentence(5, "how many. UNKNOWN; OUTSIDE; ROOM.");
        VeneerRows x = strict();
        is("neither ROUTINE nor ACT", x.act(201, 15, 0, 0), UNKNOWN);
        x.routine();
        for (int k = 1; k <= 8; k++) {
            x.act(201, 0, 0, 0);
        }
        is("no ACT, and no room", x.act(201, 15, 0, 0), OUTSIDE);
        is("no ACT, and no room", x.act(201, -1, 0, 0), OUTSIDE);
        is("no room", x.act(201, 14, 0, 0), ROOM);
        is("another one", x.act(202, -1, 0, 0), UNKNOWN);
    }

    private static void actNumbers() {
        sentence(5, "each with numbers a, b");
        for (int v : new int[] {MIN, -1, 0, MAX}) {
            VeneerRows x = strict();
            x.object(0, 0);
            row(x, 1, 3, routineOf(x, a(0, v)));
            is("a is " + v, x.send(1, 3, 5), v);
            row(x, 1, 4, routineOf(x, a(1)));
            row(x, 1, 3, routineOf(x, a(2), a(6, 4, v)));
            is("b is " + v, x.send(1, 3, 5), v);
        }
    }

    // ---- promise 6

    /** In the house 7 is the number that comes next, 4 is free, 3, 5 and 6 are objects. */
    private static final int[] NO_CLASSES = {7, 8, 3, 4, 5, 6, 40, 41, -1, 100, 101, 201, 301, MIN, MAX};

    private static void groupOfWhat() {
        sentence(6, "A CLASS has up to two PARENTS (CLASSES that came before).");
        for (int v : NO_CLASSES) {
            refused("group(" + v + ", 0, 0)", UNKNOWN, x -> x.group(v, 0, 0));
            refused("group(0, " + v + ", 0)", UNKNOWN, x -> x.group(0, v, 0));
            refused("group(1, " + v + ", 1)", UNKNOWN, x -> x.group(1, v, 1));
        }
        VeneerRows x = strict();
        is("none came before", x.group(1, 0, 0), UNKNOWN);
        is("none came before", x.group(0, 1, 0), UNKNOWN);
        is("group(0, 0, 0)", x.group(0, 0, 0), 1);
        is("group(0, 0, 0)", x.group(0, 0, 0), 2);
        is("group(1, 2, 0)", x.group(1, 2, 0), 3);
        is("group(3, 4, 0)", x.group(3, 4, 0), UNKNOWN);
        is("group(3, 2, 0)", x.group(3, 2, 0), 4);
    }

    private static void groupPool() {
        sentence(6, "with a POOL of 0 .. 6: its number.");
        for (int pool : new int[] {-1, 7, -7, 8, 256, MIN, MAX, MAX - 6}) {
            refused("group(0, 0, " + pool + ")", OUTSIDE, x -> x.group(0, 0, pool));
        }
        for (int pool = 0; pool <= 6; pool++) {
            VeneerRows x = newHouse(1);
            is("group(1, 0, " + pool + ")", x.group(1, 0, pool), 7);
            is("count(0)", x.count(0), 7 + pool);
            is("remaining", x.send(7, 14, 0), pool);
        }
    }

    private static void groupFull() {
        sentence(6, "THINGS have numbers 1, 2, .. as they come, 40 at most: CLASSES and OBJECTS.");
        VeneerRows x = strict();
        for (int k = 1; k <= 40; k++) {
            is("group(0, 0, 0)", x.group(0, 0, 0), k);
        }
        is("the 41st", x.group(0, 0, 0), ROOM);
        is("the 41st", x.object(0, 0), ROOM);
        is("count(0)", x.count(0), 40);
        is("meta(40)", x.meta(40), 1);
        is("meta(41)", x.meta(41), 0);
        is("value(40, ..)", x.value(40, 0, 0, 1), 1);
        is("value(41, ..)", x.value(41, 0, 0, 1), UNKNOWN);
        VeneerRows y = strict();
        objects(y, 39);
        is("the 40th", y.group(0, 0, 0), 40);
        is("the 41st", y.group(0, 0, 0), ROOM);
    }

    private static void groupFullForPool() {
        sentence(6, "ROOM: also for the POOL.");
        for (int pool = 0; pool <= 6; pool++) {
            VeneerRows x = strict();
            objects(x, 40 - pool);
            is("one too many: " + pool, x.group(0, 0, pool), ROOM);
            is("count(0)", x.count(0), 40 - pool);
            is("meta of the next", x.meta(41 - pool), 0);
            VeneerRows y = strict();
            objects(y, 39 - pool);
            is("just room: " + pool, y.group(0, 0, pool), 40 - pool);
            is("count(0)", y.count(0), 40);
            is("remaining", y.send(40 - pool, 14, 0), pool);
            for (int k = 1; k <= pool; k++) {
                is("create", y.send(40 - pool, 12, 0), 40 - pool + k);
            }
            is("and no more", y.send(40 - pool, 12, 0), 0);
            is("nor things", y.object(0, 0), ROOM);
        }
        VeneerRows x = strict();
        objects(x, 36);
        is("not for 4", x.group(0, 0, 4), ROOM);
        is("but for 3", x.group(0, 0, 3), 37);
    }

    private static void groupOrder() {
        sentence(6, "UNKNOWN (a number that is none of those wanted), OUTSIDE (another number is not as told), "
            + "ROOM, the first of these.");
        VeneerRows x = strict();
        objects(x, 40);
        is("all three", x.group(1, 0, 7), UNKNOWN);
        is("all three", x.group(0, 41, -1), UNKNOWN);
        is("unknown and room", x.group(0, 1, 6), UNKNOWN);
        is("outside and room", x.group(0, 0, 7), OUTSIDE);
        is("outside and room", x.group(0, 0, -1), OUTSIDE);
        is("room", x.group(0, 0, 0), ROOM);
        VeneerRows y = strict();
        is("unknown and outside", y.group(1, 1, 7), UNKNOWN);
        is("outside", y.group(0, 0, 7), OUTSIDE);
        is("nothing changes", y.count(0) + x.count(0), 40);
    }

    private static void groupSameTwice() {
        sentence(6, "A CLASS of PARENTS (0: none; the same twice counts once)");
        VeneerRows x = strict();
        x.group(0, 0, 0);
        row(x, 1, 0, 1);
        is("group(1, 1, 0)", x.group(1, 1, 0), 2);
        row(x, 2, 0, 2);
        x.object(2, 0);
        is("once", rowOf(x, 3, 0), "2 1");
    }

    private static void groupNoParents() {
        sentence(6, "A CLASS of PARENTS (0: none");
        VeneerRows x = strict();
        x.group(0, 0, 0);
        row(x, 1, 0, 1);
        is("only a second one", x.group(0, 1, 0), 2);
        is("only a first one", x.group(1, 0, 0), 3);
        is("none", x.group(0, 0, 0), 4);
        for (int k = 2; k <= 4; k++) {
            x.object(k, 0);
        }
        is("rows", rowOf(x, 5, 0) + "," + rowOf(x, 6, 0) + "," + rowOf(x, 7, 0), "1,1,");
        is("is of", "" + x.isOf(5, 1) + x.isOf(6, 1) + x.isOf(7, 1) + x.isOf(7, 4), "1101");
    }

    private static void poolBehindClass() {
        sentence(6, "A CLASS comes with n OBJECTS of it alone (right behind it, by number), FREE, not THERE. "
            + "Others are THERE always.");
        VeneerRows x = strict();
        is("with six", x.group(0, 0, 6), 1);
        is("with none", x.group(1, 0, 0), 8);
        is("with one", x.group(8, 0, 1), 9);
        is("an other", x.object(1, 0), 11);
        String metas = "";
        for (int v = 1; v <= 12; v++) {
            metas += x.meta(v);
        }
        is("metas", metas, "100000011020");
        is("of it alone", x.send(9, 12, 0), 10);
        is("its line", "" + x.isOf(10, 9) + x.isOf(10, 8) + x.isOf(10, 1), "111");
        for (int name = 13; name <= 15; name += 2) {
            is("no pool's", x.send(1, name, 11), 0);
            is("there always", x.meta(11), 2);
        }
    }

    // ---- promise 7

    private static void objectOfWhat() {
        sentence(7, "An OBJECT of CLASSES (likewise): its number. UNKNOWN; ROOM.");
        for (int v : NO_CLASSES) {
            refused("object(" + v + ", 0)", UNKNOWN, x -> x.object(v, 0));
            refused("object(0, " + v + ")", UNKNOWN, x -> x.object(0, v));
            refused("object(2, " + v + ")", UNKNOWN, x -> x.object(2, v));
        }
        VeneerRows x = newHouse(1);
        is("object(0, 0)", x.object(0, 0), 7);
        is("object(1, 2)", x.object(1, 2), 8);
        is("object(0, 1)", x.object(0, 1), 9);
        is("of none", x.isOf(7, 1) + x.isOf(7, 2), 0);
        is("of both", x.isOf(8, 1) + x.isOf(8, 2), 2);
        is("of the second", x.isOf(9, 1), 1);
        is("in nothing", x.tree(8, 0) + x.tree(8, 1) + x.tree(8, 2) + x.tree(8, 3), 0);
    }

    private static void objectFull() {
        sentence(7, "THINGS have numbers 1, 2, .. as they come, 40 at most");
        VeneerRows x = strict();
        for (int k = 1; k <= 40; k++) {
            is("object(0, 0)", x.object(0, 0), k);
        }
        is("the 41st", x.object(0, 0), ROOM);
        is("count(0)", x.count(0), 40);
        is("meta(40)", x.meta(40), 2);
        is("meta(41)", x.meta(41), 0);
        is("move(40, 1)", x.move(40, 1), 1);
        is("move(41, 1)", x.move(41, 1), 0);
    }

    private static void objectOrder() {
        sentence(7, "its number. UNKNOWN; ROOM.");
        VeneerRows x = strict();
        x.group(0, 0, 6);
        objects(x, 33);
        is("unknown and room", x.object(2, 0), UNKNOWN);
        is("unknown and room", x.object(1, 41), UNKNOWN);
        is("room", x.object(1, 0), ROOM);
        is("room", x.object(0, 0), ROOM);
        is("count(0)", x.count(0), 40);
    }

    private static void objectSameTwice() {
        sentence(7, "An OBJECT of CLASSES (likewise)");
        VeneerRows x = strict();
        x.group(0, 0, 0);
        row(x, 1, 0, 1);
        x.object(1, 1);
        is("once", rowOf(x, 2, 0), "1");
    }

    // ---- lines and rows

    /** The line of an object of this class, by NAME 0, of which class k has the value k. */
    private static void numbered(VeneerRows x, int from, int to) {
        for (int k = from; k <= to; k++) {
            x.value(k, 0, 0, k);
        }
    }

    private static void lineOfClass() {
        sentence(6, "Its LINE is: itself, then its first PARENT's LINE, then its second one's, but each CLASS "
            + "just where it first stands.");
        VeneerRows x = strict();
        x.group(0, 0, 0);
        x.group(1, 0, 0);
        x.group(1, 0, 0);
        x.group(2, 3, 0);
        x.group(3, 2, 0);
        x.group(1, 2, 0);
        x.group(2, 1, 0);
        numbered(x, 1, 7);
        for (int k = 1; k <= 7; k++) {
            x.object(k, 0);
        }
        is("1", rowOf(x, 8, 0), "1");
        is("2 1", rowOf(x, 9, 0), "2 1");
        is("4 2 1 3", rowOf(x, 11, 0), "4 2 1 3");
        is("5 3 1 2", rowOf(x, 12, 0), "5 3 1 2");
        is("6 1 2", rowOf(x, 13, 0), "6 1 2");
        is("7 2 1", rowOf(x, 14, 0), "7 2 1");
        VeneerRows y = strict();
        y.group(0, 0, 0);
        for (int k = 2; k <= 39; k++) {
            y.group(k - 1, 0, 0);
        }
        y.value(1, 5, 0, 55);
        y.object(39, 0);
        is("thirty-nine long", y.isOf(40, 1) + y.isOf(40, 20) + y.isOf(40, 39), 3);
        is("thirty-nine long", y.read(40, 5, 0), 55);
    }

    private static void lineOfObject() {
        sentence(7, "AN OBJECT has up to two CLASSES; its LINE is those of these, likewise.");
        VeneerRows x = strict();
        x.group(0, 0, 0);
        x.group(1, 0, 0);
        x.group(0, 0, 0);
        numbered(x, 1, 3);
        int[][] classes = {{0, 0}, {1, 2}, {2, 1}, {3, 2}, {2, 3}, {0, 2}, {2, 0}, {2, 2}};
        String[] lines = {"", "1 2", "2 1", "3 2 1", "2 1 3", "2 1", "2 1", "2 1"};
        for (int k = 0; k < lines.length; k++) {
            int o = x.object(classes[k][0], classes[k][1]);
            is("object(" + classes[k][0] + ", " + classes[k][1] + ")", rowOf(x, o, 0), lines[k]);
        }
    }

    private static void rowOfFirstClass() {
        sentence(7, "for each NAME that of the first CLASS in its LINE that has one");
        VeneerRows x = strict();
        x.group(0, 0, 0);
        x.group(1, 0, 0);
        x.group(0, 0, 0);
        row(x, 1, 1, 11, 12, 13, 14);
        row(x, 2, 1, 21);
        row(x, 3, 1, 31, 32);
        row(x, 1, 2, 15);
        row(x, 3, 2, 35, 36);
        row(x, 3, 11, 1, 2, 3, 4);
        x.object(2, 3);
        is("of the first", rowOf(x, 4, 1), "21");
        is("of its parent", rowOf(x, 4, 2), "15");
        is("of the last", rowOf(x, 4, 11), "1 2 3 4");
        is("of none", x.provides(4, 3), 0);
        x.object(3, 2);
        is("of the first", rowOf(x, 5, 1) + "," + rowOf(x, 5, 2), "31 32,35 36");
        is("a CLASS has its own alone", x.provides(2, 2), 0);
    }

    private static void rowOfName0() {
        sentence(7, "but for NAME 0 all VALUES of all CLASSES in its LINE, one behind the other, the first 4.");
        for (int ahead = 0; ahead <= 4; ahead++) {
            VeneerRows x = strict();
            x.group(0, 0, 0);
            x.group(0, 0, 0);
            for (int i = 0; i < ahead; i++) {
                x.value(1, 0, i, 10 + i);
            }
            row(x, 2, 0, 20, 21, 22, 23);
            x.object(1, 2);
            String all = "10 11 12 13".substring(0, Math.max(0, 3 * ahead - 1)) + (ahead == 0 ? "" : " ")
                + "20 21 22 23";
            is(ahead + " ahead of four", rowOf(x, 3, 0), all.substring(0, 11));
        }
        VeneerRows x = strict();
        x.group(0, 0, 0);
        x.group(1, 0, 0);
        x.group(2, 0, 0);
        row(x, 1, 0, 1);
        row(x, 2, 0, 2);
        row(x, 3, 0, 3);
        x.object(3, 0);
        is("three of one each", rowOf(x, 4, 0), "3 2 1");
        is("there is room for one more", x.value(4, 0, 3, 4), 4);
        row(x, 1, 1, 1);
        row(x, 2, 1, 2);
        x.object(2, 1);
        is("of NAME 1 the first alone", rowOf(x, 5, 1), "2");
    }

    private static void rowsLater() {
        sentence(7, "(What its CLASSES get later changes nothing of it.)");
        VeneerRows x = strict();
        x.group(0, 0, 0);
        row(x, 1, 0, 1);
        row(x, 1, 3, 30);
        x.object(1, 0);
        x.value(1, 0, 0, 2);
        x.value(1, 0, 1, 3);
        x.value(1, 3, 0, 31);
        x.write(1, 3, 0, 32);
        x.value(1, 4, 0, 40);
        is("its rows", rowOf(x, 2, 0) + "," + rowOf(x, 2, 3) + "," + rowOf(x, 2, 4), "1,30,");
        x.value(2, 3, 0, 33);
        x.write(2, 0, 0, 9);
        is("nor of them", rowOf(x, 1, 0) + "," + rowOf(x, 1, 3), "2 3,32");
        x.object(1, 0);
        is("one that comes now", rowOf(x, 3, 0) + "," + rowOf(x, 3, 3) + "," + rowOf(x, 3, 4), "2 3,32,40");
    }

    // ---- promise 8

    private static void valueOfWhat() {
        sentence(8, "VALUE i (0 .. 3) of a CLASS's, or an OBJECT's (THERE or not) ROW");
        for (int v : new int[] {0, 7, 40, 41, -1, 101, 201, 301, MIN, MAX}) {
            refused("value(" + v + ", 3, 0, 1)", UNKNOWN, x -> x.value(v, 3, 0, 1));
        }
        VeneerRows x = newHouse(1);
        for (int v = 1; v <= 6; v++) {
            is("value(" + v + ", 9, 0, ..)", x.value(v, 9, 0, 90 + v), 1);
            is("value(" + v + ", 9, 1, ..)", x.value(v, 9, 1, 80 + v), 2);
        }
        is("rows", rowOf(x, 1, 9) + "," + rowOf(x, 2, 9) + "," + rowOf(x, 3, 9) + "," + rowOf(x, 5, 9) + ","
            + rowOf(x, 6, 9), "91 81,92 82,93 83,95 85,96 86");
        is("one that is not there", x.value(4, 9, 3, 1), OUTSIDE);
        is("one that is not there", x.value(4, 9, 2, 1), 3);
        is("no fault more", x.count(4), 1);
    }

    private static void valueNames() {
        sentence(8, "ROW of a NAME 0 .. 11 is v");
        for (int name : new int[] {-1, 12, 13, 15, 16, -12, MIN, MAX}) {
            refused("value(1, " + name + ", 0, 1)", OUTSIDE, x -> x.value(1, name, 0, 1));
            refused("value(5, " + name + ", 0, 1)", OUTSIDE, x -> x.value(5, name, 0, 1));
        }
        VeneerRows x = strict();
        x.group(0, 0, 0);
        for (int name = 0; name <= 11; name++) {
            is("value(1, " + name + ", 0, ..)", x.value(1, name, 0, 100 + name), 1);
        }
        x.object(1, 0);
        for (int name = 0; name <= 11; name++) {
            is("read(1, " + name + ", 0)", x.read(1, name, 0), 100 + name);
            is("read(2, " + name + ", 0)", x.read(2, name, 0), 100 + name);
            is("provides(2, " + name + ")", x.provides(2, name), 1);
        }
    }

    private static void valuePlaces() {
        sentence(8, "VALUE i (0 .. 3)");
        // NAME 4 of class 2 and of object 5 has four values.
        for (int i : new int[] {-1, 4, 5, -4, MIN, MAX}) {
            refused("value(2, 4, " + i + ", 1)", OUTSIDE, x -> x.value(2, 4, i, 1));
            refused("value(5, 4, " + i + ", 1)", OUTSIDE, x -> x.value(5, 4, i, 1));
            refused("value(4, 9, " + i + ", 1)", OUTSIDE, x -> x.value(4, 9, i, 1));
        }
        for (int i = 0; i <= 3; i++) {
            VeneerRows x = newHouse(1);
            is("value(2, 4, " + i + ", ..)", x.value(2, 4, i, 1), 4);
            is("its row", rowOf(x, 2, 4), "40 41 42 43".replace("4" + i, "1"));
        }
    }

    private static void valueGrows() {
        sentence(8, "i is at most how many there are (then there is one more): how many.");
        for (int many = 0; many <= 3; many++) {
            for (int i = many + 1; i <= 4; i++) {
                int had = many;
                int place = i;
                refused("value " + i + " of " + many, OUTSIDE, x -> {
                    x.group(0, 0, 0);
                    x.object(1, 0);
                    for (int k = 0; k < had; k++) {
                        x.value(2, 5, k, k);
                    }
                }, x -> x.value(2, 5, place, 9));
            }
        }
        VeneerRows x = strict();
        x.object(0, 0);
        for (int i = 0; i <= 3; i++) {
            is("one more", x.value(1, 5, i, 50 + i), i + 1);
            is("the same again", x.value(1, 5, i, 60 + i), i + 1);
            is("the first again", x.value(1, 5, 0, 70), i + 1);
            is("how many", x.provides(1, 5), i + 1);
        }
        is("its row", rowOf(x, 1, 5), "70 61 62 63");
        is("others have none", x.provides(1, 4) + x.provides(1, 6), 0);
    }

    private static void valueFull() {
        sentence(8, "A THING may have a ROW of 1 to 4 VALUES (any ints) for each NAME 0 .. 11.");
        VeneerRows x = strict();
        x.object(0, 0);
        for (int name = 0; name <= 11; name++) {
            for (int i = 0; i <= 3; i++) {
                is("value(1, " + name + ", " + i + ", ..)", x.value(1, name, i, 10 * name + i), i + 1);
            }
            is("a fifth", x.value(1, name, 4, 1), OUTSIDE);
        }
        for (int name = 0; name <= 11; name++) {
            for (int i = 0; i <= 3; i++) {
                is("read(1, " + name + ", " + i + ")", x.read(1, name, i), 10 * name + i);
            }
            is("four", x.provides(1, name), 4);
        }
        is("no fault", x.count(4), 0);
    }

    private static void valueAnyInt() {
        sentence(8, "VALUES (any ints)");
        VeneerRows x = strict();
        x.group(0, 0, 0);
        row(x, 1, 3, MIN, -1, 0, MAX);
        x.object(1, 0);
        is("of a CLASS", rowOf(x, 1, 3), MIN + " -1 0 " + MAX);
        is("of an OBJECT", rowOf(x, 2, 3), MIN + " -1 0 " + MAX);
        x.value(2, 4, 0, 0);
        is("a VALUE 0 is one", x.provides(2, 4), 1);
        is("sent", x.send(2, 4, 9), 0);
        is("no fault", x.count(4), 0);
    }

    private static void valueOrder() {
        sentence(8, "how many. UNKNOWN; OUTSIDE.");
        VeneerRows x = strict();
        x.object(0, 0);
        is("thing and name", x.value(2, 12, 0, 1), UNKNOWN);
        is("thing and place", x.value(0, 0, 4, 1), UNKNOWN);
        is("thing, name and place", x.value(-1, -1, -1, 1), UNKNOWN);
        is("name and place", x.value(1, 12, 4, 1), OUTSIDE);
    }

    // ---- promise 9

    private static void arrayWords() {
        sentence(9, "An ARRAY of 1 .. 10 WORDS: its number.");
        for (int words : new int[] {0, 11, -1, 12, -10, 256, MIN, MAX}) {
            refused("array(" + words + ")", OUTSIDE, x -> x.array(words));
        }
        for (int words = 1; words <= 10; words++) {
            VeneerRows x = strict();
            is("array(" + words + ")", x.array(words), 301);
            is("its last", x.setWord(301, words - 1, 7), 7);
            is("no fault", x.count(4), 0);
            is("beyond it", x.setWord(301, words, 7), 0);
            is("beyond it", faults(x), "12/301/" + words);
        }
    }

    private static void arrayFull() {
        sentence(9, "ARRAYS 301 .. 310, as they come.");
        VeneerRows x = strict();
        for (int k = 301; k <= 310; k++) {
            is("array(10)", x.array(10), k);
        }
        for (int k = 301; k <= 310; k++) {
            x.setWord(k, 9, k);
        }
        is("the 11th", x.array(1), ROOM);
        is("the 11th", x.array(10), ROOM);
        is("count(3)", x.count(3), 10);
        is("meta(310)", x.meta(310), 5);
        is("meta(311)", x.meta(311), 0);
        for (int k = 301; k <= 310; k++) {
            is("each its own", x.word(k, 9), k);
        }
        refused("array(1) with 10", ROOM, y -> {
            for (int k = 1; k <= 10; k++) {
                y.array(2);
            }
            y.setWord(301, 1, 5);
        }, y -> y.array(1));
    }

    private static void arrayOrder() {
        sentence(9, "its number. OUTSIDE; ROOM.");
        VeneerRows x = strict();
        for (int k = 301; k <= 310; k++) {
            x.array(1);
        }
        is("outside and room", x.array(0), OUTSIDE);
        is("outside and room", x.array(11), OUTSIDE);
        is("room", x.array(1), ROOM);
    }

    private static void arrayAtFirst0() {
        sentence(9, "WORDS of an ARRAY are ints, at first 0");
        VeneerRows x = strict();
        x.array(10);
        for (int i = 0; i < 10; i++) {
            is("word(301, " + i + ")", x.word(301, i), 0);
        }
        is("byteOf(301, 39)", x.byteOf(301, 39), 0);
        int[] ints = {MIN, MAX, -1, 0};
        for (int i = 0; i < 4; i++) {
            is("setWord", x.setWord(301, i, ints[i]), ints[i]);
            is("word", x.word(301, i), ints[i]);
        }
        is("no fault", x.count(4), 0);
    }

    // ---- promise 10

    private static void calledWhat() {
        sentence(10, "A CLASS or OBJECT (THERE or not) has a TEXT");
        for (int v : new int[] {0, 7, 40, 41, -1, 101, 201, 301, MIN, MAX}) {
            refused("called(" + v + ", 101, true)", UNKNOWN, x -> x.called(v, 101, true));
            refused("called(" + v + ", 0, true)", UNKNOWN, x -> x.called(v, 0, true));
        }
        VeneerRows x = newHouse(1);
        for (int v = 1; v <= 6; v++) {
            is("called(" + v + ", 102, false)", x.called(v, 102, false), 1);
        }
        x.send(2, 12, 0);
        is("names", nameOf(x, 1, 0) + nameOf(x, 2, 0) + nameOf(x, 3, 0) + nameOf(x, 4, 1) + nameOf(x, 5, 0)
            + nameOf(x, 6, 0), "class Boxclass BoxBoxthe BoxBoxBox");
        is("no fault more", x.count(4), 1);
    }

    private static void calledText() {
        sentence(10, "(0: none), and is PROPER or not: 1. UNKNOWN.");
        for (int text : new int[] {100, 103, 120, 121, -1, 1, 5, 201, 301, MIN, MAX}) {
            refused("called(5, " + text + ", true)", UNKNOWN, x -> x.called(5, text, true));
            refused("called(6, " + text + ", true)", UNKNOWN, x -> x.called(6, text, true));
        }
        VeneerRows x = strict();
        x.object(0, 0);
        is("none yet", x.called(1, 101, false), UNKNOWN);
        for (int k = 0; k < 20; k++) {
            textOf(x, k == 19 ? "last" : "other");
        }
        is("called(1, 120, ..)", x.called(1, 120, false), 1);
        is("called(1, 121, ..)", x.called(1, 121, false), UNKNOWN);
        is("its name", nameOf(x, 1, 0), "last");
    }

    private static void calledNone() {
        sentence(10, "has a TEXT (0: none)");
        VeneerRows x = newHouse(1);
        is("called(5, 0, false)", x.called(5, 0, false), 1);
        is("its name", nameOf(x, 5, 1), "(5)");
        is("called(2, 0, false)", x.called(2, 0, false), 1);
        is("its name", nameOf(x, 2, 1), "class (2)");
        is("called(6, 0, true), which had none", x.called(6, 0, true), 1);
        is("its name", nameOf(x, 6, 1), "(6)");
        is("called(5, 102, false)", x.called(5, 102, false), 1);
        is("its name", nameOf(x, 5, 1), "the Box");
    }

    private static void calledProper() {
        sentence(10, "and is PROPER or not: 1.");
        VeneerRows x = newHouse(1);
        is("not proper", nameOf(x, 5, 1), "the owl");
        is("proper", x.called(5, 101, true), 1);
        is("proper", nameOf(x, 5, 1), "owl");
        is("not proper again", x.called(5, 101, false), 1);
        is("not proper again", nameOf(x, 5, 1), "the owl");
    }
}
