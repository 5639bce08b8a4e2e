/** Each promise of the document: ordinary inputs, the edges that it names, wrong inputs. */
public final class PromiseTest extends Story {
    public static void main(String[] args) {
        newObject();
        letter();
        text();
        routine();
        act();
        group();
        lines();
        object();
        rowsOfObjects();
        value();
        array();
        called();
        sendToThings();
        sendToObjects();
        create();
        destroy();
        recreate();
        pools();
        acts();
        actsOfTheTree();
        endingActs();
        nesting();
        actsACall();
        sendAs();
        read();
        write();
        move();
        tree();
        loop();
        brokenLoops();
        meta();
        isOf();
        provides();
        word();
        setWord();
        byteOf();
        name();
        nameOfFree();
        articles();
        out();
        clear();
        fault();
        count();
        due.end();
    }

    // ---- promise 1

    private static void newObject() {
        VeneerRows x = strict();
        for (int what = 0; what <= 7; what++) {
            due.is("1 count", x.count(what), 0);
        }
        due.is("1 out", x.out(0), NONE);
        due.is("1 fault", x.fault(0, 0), NONE);
        due.is("1 meta", x.meta(1), 0);
        for (int strict : new int[] {1, -1, 2, MIN, MAX}) {
            VeneerRows y = new VeneerRows(strict);
            y.send(0, 0, 0);
            due.is("1 strict " + strict, y.count(4), 1);
        }
        VeneerRows lax = new VeneerRows(0);
        lax.send(0, 0, 0);
        lax.move(1, 2);
        due.is("1 not strict", lax.count(4), 0);
    }

    // ---- promises 2 to 10

    private static void letter() {
        VeneerRows x = strict();
        due.is("2 31", x.letter(31), OUTSIDE);
        due.is("2 127", x.letter(127), OUTSIDE);
        due.is("2 min", x.letter(MIN), OUTSIDE);
        due.is("2 97 + 256", x.letter(97 + 256), OUTSIDE);
        due.is("2 none came", x.count(7), 0);
        due.is("2 32", x.letter(32), 1);
        due.is("2 126", x.letter(126), 2);
        for (int k = 3; k <= 20; k++) {
            due.is("2 many", x.letter('x'), k);
        }
        due.is("2 21st", x.letter('y'), ROOM);
        due.is("2 21st, outside ahead of room", x.letter(7), OUTSIDE);
        due.is("2 draft", x.count(7), 20);
        x.object(0, 0);
        x.called(1, x.text(), false);
        x.name(1, 0);
        due.is("2 bytes", said(x), " ~xxxxxxxxxxxxxxxxxx");
    }

    private static void text() {
        VeneerRows x = strict();
        x.letter('a');
        due.is("3 first", x.text(), 101);
        due.is("3 draft is empty", x.count(7), 0);
        due.is("3 an empty text", x.text(), 102);
        for (int k = 103; k <= 120; k++) {
            due.is("3 more", x.text(), k);
        }
        x.letter('b');
        due.is("3 room", x.text(), ROOM);
        due.is("3 draft stays", x.count(7), 1);
        due.is("3 count", x.count(1), 20);
        due.is("3 letter goes on", x.letter('c'), 2);
    }

    private static void routine() {
        VeneerRows x = strict();
        for (int k = 201; k <= 220; k++) {
            due.is("4 routine", x.routine(), k);
        }
        due.is("4 room", x.routine(), ROOM);
        due.is("4 count", x.count(2), 20);
    }

    private static void act() {
        VeneerRows x = strict();
        due.is("5 none yet", x.act(201, 0, 0, 0), UNKNOWN);
        x.routine();
        due.is("5 unknown 202", x.act(202, 0, 0, 0), UNKNOWN);
        due.is("5 unknown ahead of outside", x.act(200, 15, 0, 0), UNKNOWN);
        due.is("5 unknown 0", x.act(0, 0, 0, 0), UNKNOWN);
        due.is("5 unknown min", x.act(MIN, 0, 0, 0), UNKNOWN);
        due.is("5 outside 15", x.act(201, 15, 0, 0), OUTSIDE);
        due.is("5 outside -1", x.act(201, -1, 0, 0), OUTSIDE);
        due.is("5 op 14", x.act(201, 14, MIN, MAX), 1);
        due.is("5 op 0", x.act(201, 0, MAX, MIN), 2);
        for (int k = 3; k <= 8; k++) {
            due.is("5 more", x.act(201, 3, 1, 0), k);
        }
        due.is("5 room", x.act(201, 3, 1, 0), ROOM);
        due.is("5 outside ahead of room", x.act(201, 15, 1, 0), OUTSIDE);
        x.object(0, 0);
        x.value(1, 5, 0, 201);
        due.is("5 eight acts, each in its place", x.send(1, 5, 0), MAX + 6);
    }

    private static void group() {
        VeneerRows x = strict();
        due.is("6 unknown first", x.group(1, 0, 0), UNKNOWN);
        due.is("6 unknown second", x.group(0, 1, 0), UNKNOWN);
        due.is("6 unknown ahead of outside", x.group(0, -1, 7), UNKNOWN);
        due.is("6 outside", x.group(0, 0, 7), OUTSIDE);
        due.is("6 outside -1", x.group(0, 0, -1), OUTSIDE);
        due.is("6 outside max", x.group(0, 0, MAX), OUTSIDE);
        due.is("6 nothing changed", x.count(0), 0);
        due.is("6 pool of 6", x.group(0, 0, 6), 1);
        due.is("6 things", x.count(0), 7);
        due.is("6 right behind it", x.group(0, 0, 0), 8);
        x.object(0, 0);
        due.is("6 an object is no parent", x.group(9, 0, 0), UNKNOWN);
        due.is("6 nor is one of a pool", x.group(0, 2, 0), UNKNOWN);
        due.is("6 the same twice", x.group(8, 8, 6), 10);
        due.is("6 only a second one", x.group(0, 8, 6), 17);
        due.is("6", x.group(0, 0, 6), 24);
        due.is("6", x.group(0, 0, 2), 31);
        due.is("6 just room for the pool", x.group(0, 0, 6), 34);
        due.is("6 room at all", x.group(0, 0, 0), ROOM);
        due.is("6 outside ahead of room", x.group(0, 0, 7), OUTSIDE);
        VeneerRows y = strict();
        for (int k = 1; k <= 34; k++) {
            y.object(0, 0);
        }
        due.is("6 one too many in the pool", y.group(0, 0, 6), ROOM);
        due.is("6 nothing changed", y.count(0), 34);
        due.is("6 just room", y.group(0, 0, 5), 35);
        due.is("6 all", y.count(0), 40);
    }

    private static void lines() {
        VeneerRows x = strict();
        x.group(0, 0, 0);
        x.group(1, 0, 0);
        x.group(1, 0, 0);
        x.group(2, 3, 0);
        for (int k = 1; k <= 4; k++) {
            x.value(k, 0, 0, k);
        }
        x.object(4, 0);
        due.is("LINE 4 2 1 3", rowOf(x, 5, 0), "4 2 1 3");
        x.object(3, 2);
        due.is("LINE 3 1 2", rowOf(x, 6, 0), "3 1 2");
        x.object(0, 2);
        due.is("LINE 2 1", rowOf(x, 7, 0), "2 1");
        x.object(2, 2);
        due.is("LINE the same twice", rowOf(x, 8, 0), "2 1");
        x.object(1, 4);
        due.is("LINE 1 4 2 3", rowOf(x, 9, 0), "1 4 2 3");
        x.group(3, 3, 1);
        due.is("LINE of one of a pool", x.send(10, 12, 0), 11);
        due.is("LINE 10 3 1", rowOf(x, 11, 0), "3 1");
        due.is("LINE has the class itself", x.isOf(11, 10), 1);
    }

    private static void object() {
        VeneerRows x = strict();
        due.is("7 unknown", x.object(1, 0), UNKNOWN);
        due.is("7 unknown second", x.object(0, MIN), UNKNOWN);
        due.is("7 of none", x.object(0, 0), 1);
        due.is("7 there", x.meta(1), 2);
        due.is("7 an object is no class", x.object(1, 0), UNKNOWN);
        x.group(0, 0, 1);
        due.is("7 one of a pool is no class", x.object(2, 3), UNKNOWN);
        due.is("7 a text is no class", x.object(2, x.text()), UNKNOWN);
        due.is("7 in nothing", x.tree(1, 0), 0);
        for (int k = 4; k <= 40; k++) {
            due.is("7 more", x.object(2, 2), k);
        }
        due.is("7 room", x.object(0, 0), ROOM);
        due.is("7 unknown ahead of room", x.object(0, 1), UNKNOWN);
        due.is("7 count", x.count(0), 40);
    }

    private static void rowsOfObjects() {
        VeneerRows x = strict();
        x.group(0, 0, 0);
        x.group(0, 0, 0);
        row(x, 1, 0, 10, 11, 12);
        row(x, 2, 0, 20, 21, 22);
        row(x, 1, 3, 30);
        row(x, 2, 3, 31, 32);
        row(x, 2, 11, 40, 41, 42, 43);
        x.object(1, 2);
        due.is("ROWS name 0, the first 4", rowOf(x, 3, 0), "10 11 12 20");
        due.is("ROWS of the first that has one", rowOf(x, 3, 3), "30");
        due.is("ROWS of the second", rowOf(x, 3, 11), "40 41 42 43");
        due.is("ROWS none", x.provides(3, 4), 0);
        x.value(1, 3, 0, 99);
        x.value(1, 4, 0, 99);
        due.is("ROWS what comes later", rowOf(x, 3, 3) + rowOf(x, 3, 4), "30");
        x.value(3, 3, 0, 5);
        due.is("ROWS its own alone", x.read(1, 3, 0), 99);
        x.group(1, 0, 1);
        due.is("ROWS one of a pool came with its class", x.value(5, 0, 3, 13), 4);
        due.is("ROWS as if it came now", x.send(4, 12, 0), 5);
        due.is("ROWS as if it came now", rowOf(x, 5, 0), "10 11 12");
        due.is("ROWS a class gets none of its parents", x.provides(4, 0), 0);
    }

    private static void value() {
        VeneerRows x = strict();
        due.is("8 unknown", x.value(1, 0, 0, 1), UNKNOWN);
        due.is("8 unknown ahead of outside", x.value(0, 12, 9, 1), UNKNOWN);
        x.group(0, 0, 1);
        x.object(1, 0);
        due.is("8 unknown", x.value(4, 0, 0, 1), UNKNOWN);
        due.is("8 name 12", x.value(1, 12, 0, 1), OUTSIDE);
        due.is("8 name -1", x.value(1, -1, 0, 1), OUTSIDE);
        due.is("8 i -1", x.value(1, 0, -1, 1), OUTSIDE);
        due.is("8 i 1 of none", x.value(1, 0, 1, 1), OUTSIDE);
        due.is("8 i 0", x.value(1, 0, 0, MIN), 1);
        due.is("8 i 0 again", x.value(1, 0, 0, MAX), 1);
        due.is("8 i 1", x.value(1, 0, 1, -1), 2);
        due.is("8 i 3 of two", x.value(1, 0, 3, 1), OUTSIDE);
        due.is("8 i 2", x.value(1, 0, 2, 0), 3);
        due.is("8 i 3", x.value(1, 0, 3, 7), 4);
        due.is("8 i 4", x.value(1, 0, 4, 7), OUTSIDE);
        due.is("8 i 1 of four", x.value(1, 0, 1, -2), 4);
        due.is("8 values", rowOf(x, 1, 0), MAX + " -2 0 7");
        due.is("8 name 11", x.value(3, 11, 0, 5), 1);
        due.is("8 of an object", x.read(3, 11, 0), 5);
        due.is("8 of one that is not there", x.value(2, 4, 0, 5), 1);
        due.is("8 of one that is not there", x.value(2, 4, 1, 5), 2);
        due.is("8 no fault", x.count(4), 0);
    }

    private static void array() {
        VeneerRows x = strict();
        due.is("9 none", x.array(0), OUTSIDE);
        due.is("9 eleven", x.array(11), OUTSIDE);
        due.is("9 min", x.array(MIN), OUTSIDE);
        due.is("9 max", x.array(MAX), OUTSIDE);
        due.is("9 one", x.array(1), 301);
        for (int k = 302; k <= 310; k++) {
            due.is("9 ten", x.array(10), k);
        }
        due.is("9 room", x.array(1), ROOM);
        due.is("9 outside ahead of room", x.array(0), OUTSIDE);
        due.is("9 count", x.count(3), 10);
        due.is("9 size", x.setWord(310, 9, 5), 5);
        due.is("9 at first 0", x.word(310, 8), 0);
    }

    private static void called() {
        VeneerRows x = strict();
        int t = textOf(x, "box");
        due.is("10 no thing", x.called(1, t, false), UNKNOWN);
        x.group(0, 0, 1);
        due.is("10 no text", x.called(1, 102, false), UNKNOWN);
        due.is("10 no text", x.called(1, -1, false), UNKNOWN);
        due.is("10 no text", x.called(1, 100, false), UNKNOWN);
        due.is("10 no thing 0", x.called(0, t, false), UNKNOWN);
        due.is("10 no thing 3", x.called(3, t, false), UNKNOWN);
        due.is("10 a class", x.called(1, t, false), 1);
        due.is("10 one that is not there", x.called(2, t, false), 1);
        x.send(1, 12, 0);
        x.name(2, 1);
        due.is("10 its text", said(x), "the box");
        x.clear();
        due.is("10 proper", x.called(2, t, true), 1);
        x.name(2, 1);
        due.is("10 proper", said(x), "box");
        x.clear();
        due.is("10 a refusal changes nothing", x.called(2, 109, false), UNKNOWN);
        x.name(2, 1);
        due.is("10 a refusal changes nothing", said(x), "box");
        x.clear();
        due.is("10 none", x.called(2, 0, false), 1);
        x.name(2, 1);
        due.is("10 none", said(x), "(2)");
    }

    // ---- promise 11

    private static void sendToThings() {
        VeneerRows x = strict();
        int t = textOf(x, "t");
        int r = routineOf(x);
        int ar = x.array(1);
        x.group(0, 0, 1);
        x.value(1, 3, 0, 5);
        for (int to : new int[] {0, -1, 2, 3, t, r, ar, MIN, MAX}) {
            VeneerRows y = strict();
            textOf(y, "t");
            routineOf(y);
            y.array(1);
            y.group(0, 0, 1);
            due.is("11 to " + to, y.send(to, 12, 9), 0);
            due.is("11 to " + to, faults(y), "1/" + to + "/12");
        }
        due.is("11 class, name 3", x.send(1, 3, 0), 0);
        due.is("11 class, name 16", x.send(1, 16, 0), 0);
        due.is("11 class, name 11", x.send(1, 11, 0), 0);
        due.is("11 class, name -1", x.send(1, -1, 0), 0);
        due.is("11 class", faults(x), "2/1/3 2/1/16 2/1/11 2/1/-1");
    }

    private static void sendToObjects() {
        VeneerRows x = strict();
        int t = textOf(x, "Hi ");
        int r = routineOf(x, a(1), a(3, 5));
        int self = routineOf(x, a(2));
        int empty = routineOf(x);
        x.object(0, 0);
        row(x, 1, 0, MIN, 1);
        row(x, 1, 1, t, r);
        row(x, 1, 2, r);
        row(x, 1, 3, self);
        row(x, 1, 4, empty);
        row(x, 1, 5, 0);
        row(x, 1, 6, 204);
        row(x, 1, 7, 102);
        row(x, 1, 8, 1);
        due.is("11 a value", x.send(1, 0, 9), MIN);
        due.is("11 a text", x.send(1, 1, 9), 1);
        due.is("11 a text", said(x), "Hi ");
        due.is("11 a routine", x.send(1, 2, MAX), MIN + 4);
        due.is("11 self", x.send(1, 3, 9), 1);
        due.is("11 no acts", x.send(1, 4, 9), 0);
        due.is("11 value 0", x.send(1, 5, 9), 0);
        due.is("11 no such routine", x.send(1, 6, 9), 204);
        due.is("11 no such text", x.send(1, 7, 9), 102);
        due.is("11 a thing's number", x.send(1, 8, 9), 1);
        due.is("11 no faults", x.count(4), 0);
        due.is("11 no row", x.send(1, 9, 9), 0);
        for (int name = 12; name <= 15; name++) {
            due.is("11 names of classes", x.send(1, name, 1), 0);
        }
        due.is("11 no name", x.send(1, -1, 9), 0);
        due.is("11 no name", x.send(1, MAX, 9), 0);
        due.is("11 no row", faults(x), "3/1/9 3/1/12 3/1/13 3/1/14 3/1/15 3/1/-1 3/1/" + MAX);
        x.routine();
        due.is("11 it is one later", x.send(1, 6, 9), 0);
    }

    // ---- pools

    private static void create() {
        VeneerRows x = strict();
        int keep = routineOf(x, a(1), a(5, 4, 0), a(0, 77));
        x.group(0, 0, 2);
        row(x, 1, 1, keep);
        row(x, 1, 4, 0);
        due.is("create", x.send(1, 12, 41), 2);
        due.is("create sends name 1 with the argument", x.read(2, 4, 0), 41);
        due.is("create: acts", x.count(6), 3);
        due.is("create: there", x.meta(2), 2);
        due.is("create: only it", x.meta(3), 0);
        x.value(1, 4, 1, 6);
        due.is("create: the next", x.send(1, 12, 42), 3);
        due.is("create: as if it came now", rowOf(x, 3, 4) + "," + rowOf(x, 2, 4), "42 6,41");
        due.is("create: none free", x.send(1, 12, 42), 0);
        due.is("create: remaining", x.send(1, 14, 0), 0);
        x.send(1, 13, 2);
        due.is("create: the free one", x.send(1, 12, 43), 2);
        x.send(1, 13, 3);
        x.send(1, 13, 2);
        due.is("create: the least number", x.send(1, 12, 43), 2);
        due.is("create: no pool", x.send(x.group(0, 0, 0), 12, 0), 0);
        due.is("create: no fault", x.count(4), 0);

        VeneerRows y = strict();
        textOf(y, "new");
        y.group(0, 0, 1);
        row(y, 1, 1, 101);
        due.is("create: a text as name 1", y.send(1, 12, 0), 2);
        due.is("create: a text as name 1", said(y), "new");
        int gone = routineOf(y, a(0, 1), a(6, 13, 2));
        y.send(1, 13, 2);
        row(y, 1, 1, gone);
        due.is("create: destroyed at once", y.send(1, 12, 0), 2);
        due.is("create: destroyed at once", y.meta(2), 0);
        due.is("create: no fault", y.count(4), 0);
    }

    private static void destroy() {
        VeneerRows x = strict();
        int mark = routineOf(x, a(1), a(3, 1), a(13));
        x.group(0, 0, 2);
        x.group(0, 0, 1);
        x.object(1, 0);
        row(x, 1, 2, mark);
        x.send(1, 12, 0);
        x.send(1, 12, 0);
        x.send(4, 12, 0);
        for (int k = 7; k <= 9; k++) {
            x.object(0, 0);
        }
        x.move(2, 6);
        x.move(3, 6);
        x.move(7, 2);
        x.move(8, 2);
        x.move(9, 8);
        due.is("destroy", x.send(1, 13, 2), 1);
        due.is("destroy sends name 2 with 0", said(x), "class (1)");
        due.is("destroy: not there", x.meta(2), 0);
        due.is("destroy: out of its parent", childrenOf(x, 6), "3");
        due.is("destroy: its children", x.tree(7, 0) + x.tree(8, 0) + x.tree(8, 2), 0);
        due.is("destroy: but not theirs", x.tree(9, 0), 8);
        due.is("destroy: remaining", x.send(1, 14, 0), 1);
        due.is("destroy: no fault", x.count(4), 0);
        for (int wrong : new int[] {2, 6, 5, 1, 0, -1, 4, MAX, MIN}) {
            due.is("destroy " + wrong, x.send(1, 13, wrong), 0);
            due.is("destroy " + wrong, x.fault(x.count(4) - 1, 0), 8);
            due.is("destroy " + wrong, x.fault(x.count(4) - 1, 1), 1);
            due.is("destroy " + wrong, x.fault(x.count(4) - 1, 2), wrong);
        }
        x.send(1, 12, 0);
        due.is("destroyed and made again: no children", x.tree(2, 3), 0);
        due.is("destroyed and made again: in nothing", x.tree(2, 0), 0);
        due.is("destroy without name 2", x.send(4, 13, 5), 1);
        due.is("destroy without name 2", x.meta(5), 0);
    }

    private static void recreate() {
        VeneerRows x = strict();
        int made = routineOf(x, a(1), a(5, 5, 0), a(0, 0), a(13));
        int ended = routineOf(x, a(1), a(5, 6, 0), a(13), a(2), a(13));
        x.group(0, 0, 2);
        row(x, 1, 1, made);
        row(x, 1, 2, ended);
        row(x, 1, 5, 50, 51);
        row(x, 1, 6, 60);
        x.object(0, 0);
        x.send(1, 12, 7);
        x.move(2, 4);
        x.value(2, 9, 0, 1);
        x.value(2, 6, 0, 61);
        x.value(1, 7, 0, 70);
        x.clear();
        due.is("recreate", x.send(1, 15, 2), 1);
        due.is("recreate: name 2, then name 1", said(x), "nothing(2)nothing");
        due.is("recreate: rows, and name 1 with 0", rowOf(x, 2, 5) + "," + rowOf(x, 2, 6) + "," + rowOf(x, 2, 7) + ","
            + rowOf(x, 2, 9), "0 51,60,70,");
        due.is("recreate: there", x.meta(2), 2);
        due.is("recreate: lies where it lay", x.tree(2, 0), 4);
        due.is("recreate: one not there", x.send(1, 15, 3), 0);
        due.is("recreate: not of it", x.send(1, 15, 4), 0);
        due.is("recreate: faults", faults(x), "8/1/3 8/1/4");

        VeneerRows y = strict();
        y.group(0, 0, 1);
        row(y, 1, 4, 8);
        y.send(1, 12, 0);
        y.write(2, 4, 0, 9);
        due.is("recreate without names 1 and 2", y.send(1, 15, 2), 1);
        due.is("recreate without names 1 and 2", y.read(2, 4, 0), 8);
        int gone = routineOf(y, a(0, 1), a(6, 13, 2));
        row(y, 2, 2, gone);
        due.is("recreate what destroys itself", y.send(1, 15, 2), 1);
        due.is("recreate what destroys itself", y.meta(2), 0);
        due.is("recreate what destroys itself", faults(y), "9/2/0");
    }

    private static void pools() {
        VeneerRows x = strict();
        x.group(0, 0, 6);
        due.is("remaining", x.send(1, 14, 0), 6);
        due.is("one of a pool", x.meta(2), 0);
        x.send(1, 12, 0);
        due.is("remaining", x.send(1, 14, 99), 5);
        x.group(1, 0, 1);
        due.is("a pool is not its parent's", x.send(1, 14, 0), 5);
        due.is("a pool is not its parent's", x.send(8, 14, 0), 1);
        x.send(8, 12, 0);
        due.is("a pool is not its parent's", x.send(1, 13, 9), 0);
        due.is("but it is of it", x.isOf(9, 1), 1);
        due.is("the name stays", x.called(9, textOf(x, "z"), true), 1);
        x.send(8, 13, 9);
        x.send(8, 12, 0);
        x.name(9, 1);
        due.is("the name stays", said(x), "z");
    }

    // ---- routines

    private static void acts() {
        VeneerRows x = strict();
        x.group(0, 0, 0);
        x.object(1, 0);
        row(x, 1, 3, 1000);
        row(x, 2, 3, 30, 31);
        row(x, 2, 4, 0);
        row(x, 2, 1, routineOf(x, a(0, 5), a(0, -7)));
        due.is("act 0", x.send(2, 1, 9), -7);
        x.value(2, 1, 0, routineOf(x, a(0, 5), a(1)));
        due.is("act 1", x.send(2, 1, 9), 9);
        x.value(2, 1, 0, routineOf(x, a(0, 5), a(2)));
        due.is("act 2", x.send(2, 1, 9), 2);
        x.value(2, 1, 0, routineOf(x, a(0, MAX), a(3, 2)));
        due.is("act 3 wraps", x.send(2, 1, 9), MIN + 1);
        x.value(2, 1, 0, routineOf(x, a(4, 3, 1)));
        due.is("act 4", x.send(2, 1, 9), 31);
        x.value(2, 1, 0, routineOf(x, a(0, 5), a(4, 3, 2)));
        due.is("act 4 with a fault", x.send(2, 1, 9), 0);
        x.value(2, 1, 0, routineOf(x, a(0, 5), a(5, 3, 1), a(3, 1)));
        due.is("act 5: result stays", x.send(2, 1, 9), 6);
        due.is("act 5", x.read(2, 3, 1), 5);
        x.value(2, 1, 0, routineOf(x, a(0, 5), a(5, 9, 0), a(3, 1)));
        due.is("act 5 with a fault", x.send(2, 1, 9), 6);
        x.value(2, 2, 0, routineOf(x, a(1), a(3, 100)));
        x.value(2, 1, 0, routineOf(x, a(2), a(6, 2, 7)));
        due.is("act 6", x.send(2, 1, 9), 107);
        x.value(2, 1, 0, routineOf(x, a(0, 0), a(6, 2, 7), a(3, 4)));
        due.is("act 6 with a fault", x.send(2, 1, 9), 4);
        x.value(2, 1, 0, routineOf(x, a(7, 3, 1)));
        due.is("act 7", x.send(2, 1, 9), 1000);
        x.value(1, 5, 0, routineOf(x, a(1), a(13), a(2), a(13)));
        x.value(2, 1, 0, routineOf(x, a(7, 5, 1)));
        due.is("act 7", x.send(2, 1, 0), 2);
        due.is("act 7: argument and self", said(x), "nothing(2)");
        x.value(2, 1, 0, routineOf(x, a(7, 5, 2), a(3, 4)));
        due.is("act 7 with a fault", x.send(2, 1, 9), 4);
        due.is("faults of acts", faults(x), "5/2/3 3/2/9 1/0/2 4/2/5");
    }

    private static void actsOfTheTree() {
        VeneerRows x = strict();
        for (int k = 1; k <= 4; k++) {
            x.object(0, 0);
        }
        x.value(1, 1, 0, routineOf(x, a(1), a(8), a(3, 10)));
        due.is("act 8: result stays", x.send(1, 1, 2), 12);
        due.is("act 8", x.tree(1, 0), 2);
        due.is("act 8, out", x.send(1, 1, 0), 10);
        due.is("act 8, out", x.tree(1, 0), 0);
        due.is("act 8 with a fault: result stays", x.send(1, 1, 1), 11);
        due.is("act 8 with a fault: result stays", x.send(1, 1, 99), 109);
        x.move(1, 2);
        x.move(3, 2);
        x.value(4, 9, 0, routineOf(x, a(1), a(9)));
        x.value(4, 10, 0, routineOf(x, a(1), a(10)));
        x.value(4, 11, 0, routineOf(x, a(1), a(11)));
        due.is("act 9", x.send(4, 9, 3), 2);
        due.is("act 10", x.send(4, 10, 2), 3);
        due.is("act 11", x.send(4, 11, 3), 1);
        due.is("act 9 with a fault", x.send(4, 9, 50), 0);
        due.is("act 10 with a fault", x.send(4, 10, 51), 0);
        due.is("act 11 with a fault", x.send(4, 11, -52), 0);
        due.is("faults of the tree", faults(x), "7/1/1 6/1/99 6/50/0 6/51/0 6/-52/0");
    }

    private static void endingActs() {
        VeneerRows x = strict();
        x.group(0, 0, 0);
        x.object(1, 0);
        x.called(2, textOf(x, "owl"), false);
        x.value(2, 1, 0, routineOf(x, a(1), a(12), a(0, 8)));
        due.is("act 12 ends", x.send(2, 1, 0), 0);
        due.is("act 12 is done", x.count(6), 2);
        due.is("act 12 goes on", x.send(2, 1, -1), 8);
        x.value(2, 1, 0, routineOf(x, a(2), a(13, 2), a(13, 0), a(13, 9), a(3, 1)));
        due.is("act 13: result stays", x.send(2, 1, 0), 3);
        due.is("act 13", said(x), "an owlowlowl");
        x.value(2, 1, 0, routineOf(x, a(1), a(14, 1), a(3, 5)));
        due.is("act 14 ends", x.send(2, 1, 2), 1);
        due.is("act 14 ends", x.count(6), 2);
        due.is("act 14 goes on", x.send(2, 1, 1), 5);
        due.is("act 14 of none", x.send(2, 1, 77), 5);
        due.is("no fault", x.count(4), 0);
    }

    private static void nesting() {
        VeneerRows x = strict();
        x.object(0, 0);
        x.object(0, 0);
        int again = routineOf(x, a(4, 3, 0), a(3, 1), a(5, 3, 0), a(2), a(6, 4, 0), a(3, 1));
        row(x, 1, 3, 0);
        row(x, 1, 4, again);
        due.is("12 within one another", x.send(1, 4, 0), 12);
        due.is("12 ran", x.read(1, 3, 0), 12);
        due.is("the 13th: fault 9", faults(x), "9/1/0");
        due.is("acts", x.count(6), 72);
        int toOther = routineOf(x, a(0, 2), a(6, 5, 0));
        int toFirst = routineOf(x, a(0, 1), a(6, 5, 0));
        row(x, 1, 5, toOther);
        row(x, 2, 5, toFirst);
        x.send(2, 5, 0);
        due.is("fault 9 tells its self", faults(x), "9/1/0 9/2/0");
        int deepText = routineOf(x, a(2), a(6, 7, 0));
        row(x, 1, 6, deepText);
        row(x, 1, 7, textOf(x, "t"));
        due.is("a text", x.send(1, 6, 0), 1);
        due.is("the depth is that of the call", x.send(1, 4, 0), 12);
        x.move(1, 2);
        x.write(1, 3, 0, 0);
        due.is("a loop's routines are within none", x.loop(2, again), 1);
        due.is("a loop's routines are within none", x.read(1, 3, 0), 12);
        x.group(0, 0, 0);
        x.object(3, 0);
        row(x, 4, 3, 0);
        row(x, 4, 4, again);
        row(x, 3, 4, again);
        due.is("one sent as a class is within none", x.sendAs(3, 4, 4, 0), 12);
    }

    private static void actsACall() {
        VeneerRows x = strict();
        x.object(0, 0);
        x.object(0, 0);
        // A leaf has 3 acts, a middle one 7 and 3 leaves, a top one 8 and 4 middle ones, the root 8 and 4 tops: 328.
        int leaf = routineOf(x, a(4, 3, 0), a(3, 1), a(5, 3, 0));
        int middle = routineOf(x, a(0, 2), a(6, 4, 0), a(0, 2), a(6, 4, 0), a(0, 2), a(6, 4, 0), a(0, 60));
        int top = routineOf(x, a(2), a(6, 5, 0), a(2), a(6, 5, 0), a(2), a(6, 5, 0), a(2), a(6, 5, 0));
        int root = routineOf(x, a(2), a(6, 6, 0), a(2), a(6, 6, 0), a(2), a(6, 6, 0), a(2), a(6, 6, 0));
        row(x, 2, 3, 0);
        row(x, 2, 4, leaf);
        row(x, 1, 5, middle);
        row(x, 1, 6, top);
        row(x, 1, 7, root);
        x.send(1, 7, 0);
        due.is("200 acts", x.count(6), 200);
        due.is("fault 10 once", x.count(4), 1);
        due.is("fault 10", x.fault(0, 0), 10);
        due.is("fault 10", x.fault(0, 2), 0);
        x.send(1, 7, 0);
        due.is("fault 10 once a call", x.count(4), 2);
        x.send(2, 3, 0);
        due.is("acts of the latest", x.count(6), 0);

        VeneerRows y = strict();
        // 25 children of 8 acts have done 200.
        int eight = routineOf(y, a(3, 1), a(3, 1), a(3, 1), a(3, 1), a(3, 1), a(3, 1), a(3, 1), a(3, 1));
        int five = routineOf(y, a(3, 1), a(3, 1), a(3, 1), a(3, 1), a(3, 1));
        int none = routineOf(y);
        y.object(0, 0);
        for (int k = 2; k <= 40; k++) {
            y.object(0, 0);
            y.move(k, 1);
        }
        due.is("25 children, 200 acts, and 14 more", y.loop(1, eight), 39);
        due.is("200 acts", y.count(6), 200);
        due.is("fault 10 tells its self", faults(y), "10/15/0");
        for (int k = 2; k <= 40; k++) {
            y.value(k, 3, 0, 0);
        }
        due.is("with the result that it has", y.loop(1, routineOf(y, a(3, 1), a(3, 1), a(3, 1), a(3, 1), a(3, 1),
            a(5, 3, 0))), 39);
        due.is("the 33rd did its last act", y.read(8, 3, 0), 5);
        due.is("the 34th was cut off", y.read(7, 3, 0), 0);
        due.is("those behind it did none", y.read(6, 3, 0), 0);
        due.is("195 acts", y.loop(1, five), 39);
        due.is("195 acts", y.count(6), 195);
        due.is("no acts", y.loop(1, none), 39);
        due.is("no acts", y.count(6), 0);
        due.is("no more faults", faults(y), "10/15/0 10/7/0");

        VeneerRows z = strict();
        // The 200th act of the call is the one that sends to the last child.
        int nested = routineOf(z, a(3, 1), a(3, 1), a(3, 1), a(3, 1), a(3, 1), a(3, 1), a(2), a(6, 1, 0));
        int deep = routineOf(z, a(0, 9));
        z.object(0, 0);
        for (int k = 2; k <= 26; k++) {
            z.object(0, 0);
            z.move(k, 1);
        }
        due.is("25 children", z.loop(1, routineOf(z, a(3, 1), a(3, 1), a(3, 1), a(3, 1), a(3, 1), a(3, 1), a(3, 1),
            a(3, 1))), 25);
        due.is("200 acts are no fault", z.count(4), 0);
        due.is("200 acts", z.count(6), 200);
        z.value(2, 1, 0, deep);
        for (int k = 3; k <= 26; k++) {
            z.value(k, 1, 0, 0);
        }
        due.is("the 200th sends", z.loop(1, nested), 25);
        due.is("the one that is sent to", faults(z), "10/2/0");
    }

    // ---- promises 12 to 17

    private static void sendAs() {
        VeneerRows x = strict();
        int r = routineOf(x, a(1), a(13), a(2), a(3, 100));
        int t = textOf(x, "T");
        x.group(0, 0, 0);
        x.group(1, 0, 1);
        x.object(2, 0);
        row(x, 1, 3, r);
        row(x, 1, 4, t);
        row(x, 1, 5, -9);
        row(x, 4, 3, 1);
        row(x, 4, 6, 1);
        due.is("12 a routine", x.sendAs(1, 4, 3, 0), 104);
        due.is("12 the argument", said(x), "nothing");
        due.is("12 acts", x.count(6), 4);
        due.is("12 a text", x.sendAs(1, 4, 4, 0), 1);
        due.is("12 a text", said(x), "nothingT");
        due.is("12 a value", x.sendAs(1, 4, 5, 0), -9);
        due.is("12 acts of the latest", x.count(6), 0);
        due.is("12 no faults", x.count(4), 0);
        due.is("12 no row in that class", x.sendAs(2, 4, 3, 0), 0);
        due.is("12 no row in that class", x.sendAs(1, 4, 6, 0), 0);
        due.is("12 name 12", x.sendAs(1, 4, 12, 0), 0);
        due.is("12 a class", x.sendAs(1, 2, 3, 0), 0);
        due.is("12 not there", x.sendAs(1, 3, 3, 0), 0);
        due.is("12 nothing", x.sendAs(1, 0, 3, 0), 0);
        due.is("12 both wrong", x.sendAs(99, 0, 3, 0), 0);
        due.is("12 no class", x.sendAs(99, 4, 3, 0), 0);
        due.is("12 no class", x.sendAs(0, 4, 3, 0), 0);
        due.is("12 an object", x.sendAs(4, 4, 3, 0), 0);
        x.group(0, 0, 0);
        due.is("12 not of it, and no row", x.sendAs(5, 4, 3, 0), 0);
        due.is("12 faults", faults(x), "3/4/3 3/4/6 3/4/12 1/2/3 1/3/3 1/0/3 1/0/3 4/4/3 4/4/3 4/4/3 4/4/3");
    }

    private static void read() {
        VeneerRows x = strict();
        x.group(0, 0, 1);
        row(x, 1, 3, 30, MIN);
        x.object(1, 0);
        due.is("13 of a class", x.read(1, 3, 1), MIN);
        due.is("13 of an object", x.read(3, 3, 0), 30);
        due.is("13 no faults", x.count(4), 0);
        due.is("13 no thing", x.read(0, 3, 0), 0);
        due.is("13 not there", x.read(2, 3, 0), 0);
        due.is("13 no row", x.read(3, 4, 0), 0);
        due.is("13 no name", x.read(3, 12, 0), 0);
        due.is("13 no name", x.read(3, MIN, 0), 0);
        due.is("13 no value", x.read(3, 3, 2), 0);
        due.is("13 no value", x.read(3, 3, -1), 0);
        due.is("13 no value", x.read(1, 3, MAX), 0);
        due.is("13 no row ahead of no value", x.read(3, 4, 9), 0);
        due.is("13 faults", faults(x), "1/0/3 1/2/3 3/3/4 3/3/12 3/3/" + MIN + " 5/3/3 5/3/3 5/1/3 3/3/4");
    }

    private static void write() {
        VeneerRows x = strict();
        x.group(0, 0, 1);
        row(x, 1, 3, 30, 31);
        x.object(1, 0);
        due.is("14 of an object", x.write(3, 3, 0, MAX), MAX);
        due.is("14 of a class", x.write(1, 3, 1, -5), -5);
        due.is("14 values", rowOf(x, 3, 3) + "," + rowOf(x, 1, 3), MAX + " 31,30 -5");
        due.is("14 no faults", x.count(4), 0);
        due.is("14 no thing", x.write(9, 3, 0, 7), 0);
        due.is("14 not there", x.write(2, 3, 0, 7), 0);
        due.is("14 no row", x.write(3, 5, 0, 7), 0);
        due.is("14 no name", x.write(3, -3, 0, 7), 0);
        due.is("14 one behind the last", x.write(3, 3, 2, 7), 0);
        due.is("14 no value", x.write(3, 3, -1, 7), 0);
        due.is("14 nothing changed", rowOf(x, 3, 3), MAX + " 31");
        due.is("14 faults", faults(x), "1/9/3 1/2/3 3/3/5 3/3/-3 5/3/3 5/3/3");
    }

    private static void move() {
        VeneerRows x = strict();
        x.group(0, 0, 1);
        for (int k = 3; k <= 7; k++) {
            x.object(0, 0);
        }
        due.is("15", x.move(4, 3), 1);
        due.is("15", x.move(5, 3), 1);
        due.is("15", x.move(6, 3), 1);
        due.is("15 last first", childrenOf(x, 3), "6 5 4");
        due.is("15 to where it lies", x.move(4, 3), 1);
        due.is("15 to where it lies", childrenOf(x, 3), "4 6 5");
        due.is("15 the middle one out", x.move(6, 0), 1);
        due.is("15 the middle one out", childrenOf(x, 3), "4 5");
        due.is("15 out again", x.move(6, 0), 1);
        due.is("15 the last one elsewhere", x.move(5, 4), 1);
        due.is("15 the last one elsewhere", childrenOf(x, 3) + "," + childrenOf(x, 4), "4,5");
        due.is("15 with what lies in it", x.move(4, 7), 1);
        due.is("15 with what lies in it", x.tree(5, 0), 4);
        due.is("15 no faults", x.count(4), 0);
        due.is("15 in itself", x.move(4, 4), 0);
        due.is("15 in its child", x.move(4, 5), 0);
        due.is("15 deep in itself", x.move(7, 5), 0);
        due.is("15 a class", x.move(1, 3), 0);
        due.is("15 in a class", x.move(3, 1), 0);
        due.is("15 not there", x.move(2, 2), 0);
        due.is("15 in what is not there", x.move(3, 2), 0);
        due.is("15 nothing", x.move(0, 0), 0);
        due.is("15 wrong numbers", x.move(3, -1), 0);
        due.is("15 wrong numbers", x.move(MIN, MAX), 0);
        due.is("15 faults", faults(x), "7/4/4 7/4/5 7/7/5 6/1/3 6/3/1 6/2/2 6/3/2 6/0/0 6/3/-1 6/" + MIN + "/" + MAX);
        due.is("15 nothing changed", childrenOf(x, 7) + "," + childrenOf(x, 4) + "," + childrenOf(x, 3), "4,5,");
        due.is("15 to a sibling", x.move(6, 7), 1);
        due.is("15 to a sibling", x.move(6, 4), 1);
        due.is("15 to a sibling", childrenOf(x, 4), "6 5");

        VeneerRows y = strict();
        for (int k = 1; k <= 40; k++) {
            y.object(0, 0);
        }
        for (int k = 39; k >= 1; k--) {
            due.is("15 forty deep", y.move(k, k + 1), 1);
        }
        due.is("15 forty deep", y.move(40, 1), 0);
        due.is("15 forty deep", faults(y), "7/40/1");
        for (int k = 1; k <= 39; k++) {
            due.is("15 thirty-nine in one", y.move(k, 40), 1);
        }
        due.is("15 thirty-nine in one", y.tree(40, 3), 39);
        due.is("15 the hindmost of them", y.move(1, 39), 1);
        due.is("15 the hindmost of them", y.tree(2, 2), 0);
        due.is("15 the hindmost of them", y.tree(40, 3), 38);
    }

    private static void tree() {
        VeneerRows x = strict();
        for (int k = 1; k <= 4; k++) {
            x.object(0, 0);
        }
        x.move(2, 1);
        x.move(3, 1);
        due.is("16 parent", x.tree(3, 0), 1);
        due.is("16 child", x.tree(1, 1), 3);
        due.is("16 sibling", x.tree(3, 2), 2);
        due.is("16 last sibling", x.tree(2, 2), 0);
        due.is("16 how many", x.tree(1, 3), 2);
        due.is("16 how many", x.tree(1, -1), 2);
        due.is("16 how many", x.tree(1, MAX), 2);
        due.is("16 none", x.tree(4, 3) + x.tree(4, 2) + x.tree(4, 1) + x.tree(4, 0), 0);
        due.is("16 sibling in nothing", x.tree(1, 2), 0);
        due.is("16 no faults", x.count(4), 0);
        x.group(0, 0, 1);
        for (int what = 0; what <= 3; what++) {
            due.is("16 wrong", x.tree(what == 0 ? 0 : what == 1 ? 5 : what == 2 ? 6 : MIN, what), 0);
        }
        due.is("16 faults", faults(x), "6/0/0 6/5/0 6/6/0 6/" + MIN + "/0");
    }

    private static void loop() {
        VeneerRows x = strict();
        int r = routineOf(x, a(2), a(13), a(1), a(13));
        int out = routineOf(x, a(0, 0), a(8));
        for (int k = 1; k <= 5; k++) {
            x.object(0, 0);
        }
        due.is("17 no children", x.loop(1, r), 0);
        for (int k = 2; k <= 4; k++) {
            x.move(k, 1);
        }
        x.move(5, 4);
        due.is("17 three", x.loop(1, r), 3);
        due.is("17 child as self, object as argument", said(x), "(4)(1)(3)(1)(2)(1)");
        due.is("17 acts", x.count(6), 12);
        due.is("17 each goes out", x.loop(1, out), 3);
        due.is("17 each goes out", x.tree(1, 3), 0);
        due.is("17 no faults", x.count(4), 0);
        x.group(0, 0, 1);
        due.is("17 of nothing", x.loop(0, r), 0);
        due.is("17 acts of the latest", x.count(6), 0);
        due.is("17 of a class", x.loop(6, r), 0);
        due.is("17 not there", x.loop(7, 9), 0);
        due.is("17 no routine", x.loop(1, 203), 0);
        due.is("17 no routine", x.loop(4, 0), 0);
        due.is("17 no routine", x.loop(4, 1), 0);
        due.is("17 faults", faults(x), "6/0/0 6/6/0 6/7/0 13/1/203 13/4/0 13/4/1");
    }

    private static void brokenLoops() {
        VeneerRows x = strict();
        for (int k = 1; k <= 5; k++) {
            x.object(0, 0);
        }
        for (int k = 2; k <= 5; k++) {
            x.move(k, 1);
        }
        // Each sends its sibling out: 5 sends 4.
        int out = routineOf(x, a(0, 0), a(8));
        int next = routineOf(x, a(2), a(11), a(12), a(6, 3, 0));
        for (int k = 2; k <= 5; k++) {
            x.value(k, 3, 0, out);
        }
        due.is("17 broken", x.loop(1, next), 1);
        due.is("17 broken", faults(x), "11/4/0");
        due.is("17 broken", childrenOf(x, 1), "5 3 2");

        VeneerRows y = strict();
        y.group(0, 0, 3);
        for (int k = 2; k <= 4; k++) {
            y.send(1, 12, 0);
        }
        y.move(3, 2);
        y.move(4, 2);
        int end = routineOf(y, a(0, 1), a(6, 13, 2));
        due.is("17 the object is destroyed", y.loop(2, end), 1);
        due.is("17 the object is destroyed", faults(y), "11/3/0");

        VeneerRows z = strict();
        for (int k = 1; k <= 3; k++) {
            z.object(0, 0);
        }
        z.move(2, 1);
        z.move(3, 1);
        // Each puts its sibling ahead of itself, so that there is always one more.
        int ahead = routineOf(z, a(1), a(8));
        int round = routineOf(z, a(2), a(11), a(6, 3, 1));
        z.value(2, 3, 0, ahead);
        z.value(3, 3, 0, ahead);
        due.is("17 forty at most", z.loop(1, round), 40);
        due.is("17 forty at most", z.count(6), 200);
        due.is("17 forty at most", z.count(4), 0);
    }

    // ---- promises 18 to 20

    private static void meta() {
        VeneerRows x = strict();
        x.group(0, 0, 1);
        x.object(0, 0);
        x.text();
        x.routine();
        x.array(1);
        int[] numbers = {0, 1, 2, 3, 4, -1, 100, 101, 102, 200, 201, 202, 300, 301, 302, MIN, MAX};
        int[] metas = {0, 1, 0, 2, 0, 0, 0, 3, 0, 0, 4, 0, 0, 5, 0, 0, 0};
        for (int k = 0; k < numbers.length; k++) {
            due.is("18 meta " + numbers[k], x.meta(numbers[k]), metas[k]);
        }
        x.send(1, 12, 0);
        due.is("18 there", x.meta(2), 2);
        due.is("18 no fault", x.count(4), 0);
    }

    private static void isOf() {
        VeneerRows x = strict();
        x.group(0, 0, 0);
        x.group(1, 0, 1);
        x.group(0, 0, 0);
        x.object(2, 4);
        x.object(4, 0);
        due.is("19", x.isOf(5, 2) + x.isOf(5, 1) + x.isOf(5, 4), 3);
        due.is("19 not", x.isOf(6, 2) + x.isOf(6, 1), 0);
        due.is("19 a class", x.isOf(2, 1) + x.isOf(2, 2), 0);
        due.is("19 not there", x.isOf(3, 2), 0);
        x.send(2, 12, 0);
        due.is("19 there", x.isOf(3, 2) + x.isOf(3, 1), 2);
        due.is("19 wrong", x.isOf(0, 1) + x.isOf(5, 0) + x.isOf(5, 5) + x.isOf(5, MIN) + x.isOf(MAX, 1), 0);
        due.is("19 no fault", x.count(4), 0);
    }

    private static void provides() {
        VeneerRows x = strict();
        x.group(0, 0, 1);
        row(x, 1, 3, 1, 2, 3);
        x.object(1, 0);
        x.value(3, 3, 3, 4);
        x.value(2, 3, 0, 4);
        due.is("20 a class", x.provides(1, 3), 3);
        due.is("20 an object", x.provides(3, 3), 4);
        due.is("20 none", x.provides(3, 4) + x.provides(3, 12) + x.provides(3, -1) + x.provides(1, MIN), 0);
        due.is("20 not there", x.provides(2, 3), 0);
        due.is("20 no thing", x.provides(0, 3) + x.provides(4, 3) + x.provides(101, 3) + x.provides(MIN, 3), 0);
        due.is("20 no fault", x.count(4), 0);
    }

    // ---- promises 21 to 23

    private static void word() {
        VeneerRows x = strict();
        due.is("21 none", x.word(301, 0), 0);
        x.array(2);
        due.is("21 at first", x.word(301, 0) + x.word(301, 1), 0);
        due.is("21 one fault", x.count(4), 1);
        due.is("21 beyond", x.word(301, 2), 0);
        due.is("21 beyond", x.word(301, -1), 0);
        due.is("21 beyond", x.word(301, MAX), 0);
        due.is("21 no array, beyond", x.word(1, -7), 0);
        due.is("21 faults", faults(x), "14/301/0 12/301/2 12/301/-1 12/301/" + MAX + " 14/1/-7");
    }

    private static void setWord() {
        VeneerRows x = strict();
        x.array(10);
        x.array(1);
        due.is("22", x.setWord(301, 9, MIN), MIN);
        due.is("22", x.word(301, 9), MIN);
        due.is("22 each its own", x.setWord(302, 0, 4), 4);
        due.is("22 each its own", x.word(301, 0), 0);
        due.is("22 no fault", x.count(4), 0);
        due.is("22 beyond", x.setWord(302, 1, 5), 0);
        due.is("22 beyond", x.setWord(301, -1, 5), 0);
        due.is("22 beyond", x.setWord(301, 10, 5), 0);
        due.is("22 no array", x.setWord(303, 3, 5), 0);
        due.is("22 faults", faults(x), "12/302/1 12/301/-1 12/301/10 14/303/3");
    }

    private static void byteOf() {
        VeneerRows x = strict();
        x.array(2);
        x.setWord(301, 0, 0x80FF017F);
        x.setWord(301, 1, -2);
        int[] bytes = {0x80, 0xFF, 1, 0x7F, 255, 255, 255, 254};
        for (int i = 0; i < 8; i++) {
            due.is("23 byte " + i, x.byteOf(301, i), bytes[i]);
        }
        due.is("23 no fault", x.count(4), 0);
        due.is("23 beyond", x.byteOf(301, 8), 0);
        due.is("23 beyond", x.byteOf(301, -1), 0);
        due.is("23 beyond", x.byteOf(301, -4), 0);
        due.is("23 beyond", x.byteOf(301, MIN), 0);
        due.is("23 beyond", x.byteOf(301, MAX), 0);
        due.is("23 no array", x.byteOf(300, 5), 0);
        due.is("23 faults", faults(x),
            "12/301/8 12/301/-1 12/301/-4 12/301/" + MIN + " 12/301/" + MAX + " 14/300/5");
    }

    // ---- promise 24

    private static String nameOf(VeneerRows x, int v, int article) {
        x.clear();
        int many = x.name(v, article);
        String s = said(x);
        due.is("24 how many bytes", many, s.length());
        return s;
    }

    private static void name() {
        VeneerRows x = strict();
        x.group(0, 0, 1);
        x.object(0, 0);
        int t = textOf(x, "lamp");
        due.is("24 nothing", nameOf(x, 0, 1), "nothing");
        for (int v : new int[] {-1, 4, 101, 99, MIN, MAX}) {
            due.is("24 none", nameOf(x, v, 3), "(none)");
        }
        due.is("24 a class", nameOf(x, 1, 1), "class (1)");
        due.is("24 an object", nameOf(x, 3, 1), "(3)");
        x.called(1, t, false);
        due.is("24 a class", nameOf(x, 1, 1), "class lamp");
        x.called(1, t, true);
        due.is("24 a class", nameOf(x, 1, 3), "class lamp");
        for (int k = 4; k <= 40; k++) {
            x.object(0, 0);
        }
        due.is("24 two digits", nameOf(x, 9, 1) + nameOf(x, 10, 1) + nameOf(x, 40, 0), "(9)(10)(40)");
        due.is("24 no fault", x.count(4), 0);
        x.clear();
        x.name(3, 0);
        due.is("24 behind what is there", x.name(0, 0), 10);
    }

    private static void nameOfFree() {
        VeneerRows x = strict();
        x.group(0, 0, 2);
        due.is("24 free", nameOf(x, 2, 0) + nameOf(x, 3, 3), "(none)(none)");
        x.called(2, textOf(x, "lamp"), false);
        x.called(3, 101, true);
        due.is("24 free, with a text", nameOf(x, 2, 1) + nameOf(x, 3, 1), "(none)(none)");
        // Name 2 is sent ahead of the end: then it still has its name.
        row(x, 1, 2, routineOf(x, a(2), a(13, 1)));
        x.send(1, 12, 0);
        due.is("24 made", nameOf(x, 2, 1) + nameOf(x, 3, 1), "the lamp(none)");
        x.clear();
        x.send(1, 13, 2);
        due.is("24 at its end", said(x), "the lamp");
        due.is("24 free again", nameOf(x, 2, 1), "(none)");
        x.object(0, 0);
        row(x, 4, 5, routineOf(x, a(1), a(13, 2), a(3, 7)));
        x.clear();
        due.is("act 13 of a free one", x.send(4, 5, 2), 9);
        due.is("act 13 of a free one", said(x), "(none)");
        x.send(1, 12, 0);
        x.clear();
        x.send(4, 5, 2);
        due.is("act 13 of one made again", said(x), "a lamp");
        due.is("24 free: no fault", x.count(4), 0);
    }

    private static void articles() {
        String[] texts = {"lamp", "egg", "Apple", "x", "", "aA", "i", "Io", "o", "Ox", "u", "Urn", "E", " a", "yew"};
        String[] twos = {"a lamp", "an egg", "an Apple", "a x", "a ", "an aA", "an i", "an Io", "an o", "an Ox", "an u",
            "an Urn", "an E", "a  a", "a yew"};
        for (int k = 0; k < texts.length; k++) {
            VeneerRows x = strict();
            x.object(0, 0);
            x.called(1, textOf(x, texts[k]), false);
            due.is("24 article 2", nameOf(x, 1, 2), twos[k]);
            due.is("24 article 1", nameOf(x, 1, 1), "the " + texts[k]);
            due.is("24 article 3", nameOf(x, 1, 3), "The " + texts[k]);
            due.is("24 article 0", nameOf(x, 1, 0), texts[k]);
            due.is("24 others", nameOf(x, 1, 4) + nameOf(x, 1, -1), texts[k] + texts[k]);
            x.called(1, 101, true);
            due.is("24 proper", nameOf(x, 1, 1) + nameOf(x, 1, 2) + nameOf(x, 1, 3), texts[k] + texts[k] + texts[k]);
        }
    }

    // ---- promises 25 to 28

    private static void out() {
        VeneerRows x = strict();
        due.is("25 empty", x.out(0), NONE);
        x.name(0, 0);
        due.is("25 first", x.out(0), 'n');
        due.is("25 last", x.out(6), 'g');
        due.is("25 behind", x.out(7), NONE);
        due.is("25 wrong", x.out(-1) + x.out(MIN) + x.out(MAX), 3 * NONE);
        for (int k = 2; k <= 57; k++) {
            due.is("25 more", x.name(0, 0), 7 * k);
        }
        due.is("25 400 at most", x.name(0, 0), 400);
        due.is("25 the 400th", x.out(399), 'n');
        due.is("25 no more", x.out(400), NONE);
        due.is("25 still 400", x.name(0, 0), 400);
        x.object(0, 0);
        x.value(1, 3, 0, textOf(x, "t"));
        due.is("25 a text that is left out", x.send(1, 3, 0), 1);
        due.is("25 a text that is left out", x.count(5), 400);
        due.is("25 no fault", x.count(4), 0);
    }

    private static void clear() {
        VeneerRows x = strict();
        due.is("26 empty", x.clear(), 0);
        x.name(0, 0);
        due.is("26", x.clear(), 7);
        due.is("26 empty", x.count(5), 0);
        due.is("26 no byte", x.out(0), NONE);
        due.is("26 again", x.clear(), 0);
        due.is("26 anew", x.name(9, 0), 6);
        due.is("26 anew", said(x), "(none)");
    }

    private static void fault() {
        VeneerRows x = strict();
        for (int k = 0; k < 29; k++) {
            x.read(0, k, 0);
        }
        due.is("27 29 told", x.count(4), 29);
        x.move(-1, -2);
        x.word(5, 6);
        due.is("27 the first 30", x.count(4), 30);
        due.is("27 the last one", x.fault(29, 0), 6);
        due.is("27 the last one", x.fault(29, 1), -1);
        due.is("27 the last one", x.fault(29, 2), -2);
        due.is("27 the first one", x.fault(0, 0), 1);
        due.is("27 the second number", x.fault(28, 2), 28);
        due.is("27 no such fault", x.fault(30, 0) + x.fault(-1, 0) + x.fault(MIN, 1) + x.fault(MAX, 2), 4 * NONE);
        due.is("27 no such what", x.fault(0, 3) + x.fault(0, -1) + x.fault(0, MAX), 3 * NONE);
    }

    private static void count() {
        VeneerRows x = strict();
        x.group(0, 0, 2);
        x.text();
        x.text();
        for (int k = 0; k < 4; k++) {
            x.routine();
        }
        for (int k = 0; k < 5; k++) {
            x.array(1);
        }
        for (int k = 0; k < 6; k++) {
            x.word(0, 0);
        }
        x.name(0, 0);
        x.act(201, 3, 1, 0);
        x.object(0, 0);
        x.value(4, 3, 0, 201);
        x.send(4, 3, 0);
        for (int k = 0; k < 8; k++) {
            x.letter('l');
        }
        int[] counts = {4, 2, 4, 5, 6, 7, 1, 8};
        for (int what = 0; what < 8; what++) {
            due.is("28 count " + what, x.count(what), counts[what]);
        }
        due.is("28 wrong", x.count(8) + x.count(-1) + x.count(MIN) + x.count(MAX), 4 * NONE);
        x.read(4, 3, 0);
        x.move(4, 0);
        due.is("28 acts stay", x.count(6), 1);
        x.sendAs(1, 4, 3, 0);
        due.is("28 acts of the latest", x.count(6), 0);
    }
}
