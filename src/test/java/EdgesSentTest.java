/** Promises 11 and 12: what is sent, routines and pools: a test for each sentence that names an edge. */
public final class EdgesSentTest extends Edges {
    public static void main(String[] args) {
        sentToNoThing();
        sentToClass();
        sentWithoutRow();
        sentFirstValue();
        sentRoutine();
        sentText();
        sentAsToWhat();
        sentAsNotOf();
        sentAsWithoutRow();
        sentAsRowOfClass();
        actResult();
        actWraps();
        actReads();
        actWrites();
        actSends();
        actSendsAs();
        actMoves();
        actTree();
        actEndsAt0();
        actName();
        actIsOf();
        within12Sent();
        within12SentAs();
        within12Pool();
        within12Others();
        acts200();
        acts201();
        actsGoOn();
        actsRunFromThere();
        actsOnceACall();
        createLeast();
        createNone();
        createRows();
        createName1();
        destroyWhat();
        destroyName2();
        destroyStillThere();
        destroyTree();
        recreateWhat();
        recreateStillThere();
        recreateRows();
        recreateName1();
        remaining();
        end(11, 12);
    }

    // ---- promise 11: sent

    private static void sentToNoThing() {
        sentence(11, "to what is no THING (META 1, 2): FAULT 1.");
        for (int to : new int[] {0, 4, 7, 40, 41, -1, 100, 101, 102, 201, 301, MIN, MAX}) {
            for (int name : new int[] {3, 12, -1}) {
                faulty("send(" + to + ", " + name + ", 9)", "1/" + to + "/" + name, x -> x.send(to, name, 9));
            }
        }
        VeneerRows x = newHouse(1);
        x.send(3, 14, 0);
        x.send(6, 11, 0);
        x.send(1, 14, 0);
        is("those that are", faults(x), "1/0/0 3/3/14");
    }

    private static void sentToClass() {
        sentence(11, "To a CLASS: NAME 12 CREATE, 13 DESTROY, 14 REMAINING, 15 RECREATE, others FAULT 2.");
        // The classes have rows of names 0, 3 and 4, which are no answer here.
        for (int name : new int[] {11, 16, 0, 3, 4, -1, -12, 17, 256 + 12, MIN, MAX}) {
            faulty("send(2, " + name + ", 3)", "2/2/" + name, x -> x.send(2, name, 3));
            faulty("send(1, " + name + ", 3)", "2/1/" + name, x -> x.send(1, name, 3));
        }
        VeneerRows x = newHouse(1);
        is("create", x.send(2, 12, 0), 4);
        is("remaining", x.send(2, 14, 0), 0);
        is("recreate", x.send(2, 15, 4), 1);
        is("destroy", x.send(2, 13, 4), 1);
        is("remaining", x.send(2, 14, 0), 1);
        is("no fault more", x.count(4), 1);
    }

    private static void sentWithoutRow() {
        sentence(11, "To an OBJECT: without a ROW of that NAME (12 to 15: too) FAULT 3.");
        // 5 has rows of names 0, 3 and 4, 6 of name 11 alone.
        for (int name : new int[] {1, 2, 5, 11, 12, 13, 14, 15, 16, -1, MIN, MAX}) {
            faulty("send(5, " + name + ", 3)", "3/5/" + name, x -> x.send(5, name, 3));
        }
        for (int name : new int[] {0, 10, 12, 13, 14, 15}) {
            faulty("send(6, " + name + ", 3)", "3/6/" + name, x -> x.send(6, name, 3));
        }
        for (int name : new int[] {11, 12, 13, 14, 15, 16}) {
            faulty("send(3, " + name + ", 3), of a POOL", "3/3/" + name, x -> x.send(3, name, 3));
        }
        quiet("send(5, 0, 3)", 20, x -> x.send(5, 0, 3));
        quiet("send(6, 11, 3)", -6, x -> x.send(6, 11, 3));
    }

    private static void sentFirstValue() {
        sentence(11, "Else its first VALUE v: a ROUTINE is RUN");
        for (int v : new int[] {100, 103, 120, 121, 200, 203, 220, 221, 300, 301, 302, 310, 0, 1, 4, 5, 7, -1, MIN,
            MAX}) {
            VeneerRows x = newHouse(1);
            row(x, 6, 8, v, 201, 101);
            is("v is " + v, x.send(6, 8, 9), v);
            is("acts", x.count(6), 0);
            is("out", said(x), "the owl");
            is("no fault more", x.count(4), 1);
        }
    }

    private static void sentRoutine() {
        sentence(11, "a ROUTINE is RUN with it as SELF and the ARGUMENT: the answer is its RESULT");
        VeneerRows x = newHouse(1);
        row(x, 6, 8, 201, 40);
        for (int argument : new int[] {0, 1, -5, MIN}) {
            is("the first one, with " + argument, x.send(6, 8, argument), argument + 5);
        }
        is("with MAX", x.send(6, 8, MAX), MIN + 4);
        row(x, 6, 8, 202);
        x.clear();
        is("the last one: SELF", x.send(6, 8, 1), 6);
        is("the last one: SELF", said(x), "(6)");
        row(x, 6, 8, 203);
        is("no ROUTINE yet", x.send(6, 8, 1), 203);
        routineOf(x, a(0, 77));
        is("one that came since", x.send(6, 8, 1), 77);
        for (int k = 204; k <= 219; k++) {
            x.routine();
        }
        row(x, 6, 8, routineOf(x, a(0, 78)));
        is("the 20th", x.send(6, 8, 1), 78);
    }

    private static void sentText() {
        sentence(11, "a TEXT comes to OUT: 1; else v is the answer");
        VeneerRows x = strict();
        x.object(0, 0);
        for (int k = 0; k < 20; k++) {
            textOf(x, k == 0 ? "first" : k == 1 ? "" : k == 19 ? "last" : "-");
        }
        x.value(1, 3, 0, 101);
        is("101", x.send(1, 3, 0), 1);
        x.value(1, 3, 0, 120);
        is("120", x.send(1, 3, 0), 1);
        is("out", said(x), "firstlast");
        x.value(1, 3, 0, 102);
        is("an empty one", x.send(1, 3, 0), 1);
        is("out", x.count(5), 9);
        x.value(1, 3, 0, 121);
        is("121", x.send(1, 3, 0), 121);
        is("out", x.count(5), 9);
        is("no acts", x.count(6), 0);
    }

    // ---- promise 12: sent as

    private static void sentAsToWhat() {
        sentence(12, "FAULT 1, if it is no OBJECT that is THERE");
        for (int to : new int[] {0, 1, 2, 4, 7, 41, -1, 101, 201, 301, MIN, MAX}) {
            faulty("sendAs(1, " + to + ", 3, 9)", "1/" + to + "/3", x -> x.sendAs(1, to, 3, 9));
            faulty("sendAs(99, " + to + ", 3, 9)", "1/" + to + "/3", x -> x.sendAs(99, to, 3, 9));
            faulty("sendAs(2, " + to + ", 12, 9)", "1/" + to + "/12", x -> x.sendAs(2, to, 12, 9));
        }
        quiet("sendAs(1, 3, 3, 9)", 14, x -> x.sendAs(1, 3, 3, 9));
        quiet("sendAs(1, 5, 3, 9)", 14, x -> x.sendAs(1, 5, 3, 9));
    }

    private static void sentAsNotOf() {
        sentence(12, "then FAULT 4, if it is not OF that CLASS");
        for (int group : new int[] {0, 3, 4, 5, 6, 7, 41, -1, 101, 201, 301, MIN, MAX}) {
            faulty("sendAs(" + group + ", 5, 3, 9)", "4/5/3", x -> x.sendAs(group, 5, 3, 9));
            faulty("sendAs(" + group + ", 5, 12, 9)", "4/5/12", x -> x.sendAs(group, 5, 12, 9));
        }
        faulty("sendAs(1, 6, 3, 9)", "4/6/3", x -> x.sendAs(1, 6, 3, 9));
        faulty("sendAs(1, 6, 11, 9), whose own row it is", "4/6/11", x -> x.sendAs(1, 6, 11, 9));
    }

    private static void sentAsWithoutRow() {
        sentence(12, "then FAULT 3, if that has no such ROW.");
        // Class 1 has rows of names 0 and 3, class 2 of 0 and 4, object 5 of 0, 3 and 4.
        for (int name : new int[] {4, 11, 12, 13, 14, 15, 16, -1, MIN, MAX}) {
            faulty("sendAs(1, 5, " + name + ", 9)", "3/5/" + name, x -> x.sendAs(1, 5, name, 9));
        }
        faulty("sendAs(2, 5, 3, 9), which its PARENT has", "3/5/3", x -> x.sendAs(2, 5, 3, 9));
    }

    private static void sentAsRowOfClass() {
        sentence(12, "the same with that CLASS's ROW of the NAME, SELF being the OBJECT");
        VeneerRows x = newHouse(1);
        x.clear();
        x.value(5, 0, 0, -1);
        x.value(5, 3, 0, -1);
        is("a VALUE", x.sendAs(1, 5, 0, 9), 10);
        is("a VALUE", x.sendAs(2, 5, 0, 9), 20);
        is("a ROUTINE", x.sendAs(1, 5, 3, 9), 14);
        x.value(1, 3, 0, 202);
        is("SELF", x.sendAs(1, 5, 3, 9), 5);
        is("SELF", said(x), "the owl");
        x.value(1, 3, 0, 101);
        is("a TEXT", x.sendAs(1, 5, 3, 9), 1);
        is("a TEXT", said(x), "the owlowl");
        is("no fault more", x.count(4), 1);
        x.value(1, 2, 0, 55);
        is("as it is now", x.sendAs(1, 5, 2, 9), 55);
    }

    // ---- the acts

    /** An object 1 whose name 3 is this routine. */
    private static VeneerRows acting(int[]... acts) {
        VeneerRows x = strict();
        x.object(0, 0);
        x.value(1, 3, 0, routineOf(x, acts));
        return x;
    }

    private static void actResult() {
        sentence(11, "0 RESULT becomes a. 1 the ARGUMENT. 2 SELF.");
        for (int v : new int[] {MIN, -1, 0, 1, MAX}) {
            is("act 0", acting(a(0, 5), a(0, v)).send(1, 3, 7), v);
            is("act 1", acting(a(0, 5), a(1, 8, 9)).send(1, 3, v), v);
        }
        is("act 2", acting(a(0, 5), a(2, 8, 9)).send(1, 3, 7), 1);
    }

    private static void actWraps() {
        sentence(11, "3 RESULT is a more (wrapping).");
        int[][] sums = {{MAX, 1, MIN}, {MIN, -1, MAX}, {MAX, MAX, -2}, {MIN, MIN, 0}, {MAX, 0, MAX}, {MIN, 0, MIN},
            {MAX - 1, 1, MAX}, {MIN + 1, -1, MIN}, {0, MIN, MIN}, {-1, MAX, MAX - 1}};
        for (int[] s : sums) {
            is(s[0] + " and " + s[1], acting(a(1), a(3, s[1])).send(1, 3, s[0]), s[2]);
        }
    }

    private static void actReads() {
        sentence(11, "4 READ: RESULT becomes VALUE b of NAME a of SELF.");
        int[][] reads = {{4, -1, 5}, {4, 0, 0}, {4, 3, 0}, {4, 4, 5}, {5, 0, 3}, {11, 0, 0}, {12, 0, 3}, {-1, 0, 3},
            {4, MIN, 5}, {4, MAX, 5}, {MIN, 0, 3}};
        for (int[] r : reads) {
            VeneerRows x = acting(a(0, 9), a(4, r[0], r[1]), a(3, 1));
            row(x, 1, 4, 40, 41, 42, 43);
            row(x, 1, 11, 70);
            int read = r[2] != 0 ? 0 : r[0] == 11 ? 70 : 40 + r[1];
            is("VALUE " + r[1] + " of NAME " + r[0], x.send(1, 3, 0), read + 1);
            is("fault", faults(x), r[2] == 0 ? "" : r[2] + "/1/" + r[0]);
        }
        VeneerRows x = strict();
        int end = routineOf(x, a(0, 1), a(6, 13, 2), a(0, 9), a(4, 3, 0));
        x.group(0, 0, 1);
        row(x, 1, 3, end);
        x.send(1, 12, 0);
        is("a SELF that is not there", x.send(2, 3, 0), 0);
        is("a SELF that is not there", faults(x), "1/2/3");
    }

    private static void actWrites() {
        sentence(11, "5 WRITE: VALUE b of NAME a of SELF becomes RESULT (which stays).");
        int[][] writes = {{4, -1, 5}, {4, 0, 0}, {4, 1, 0}, {4, 2, 5}, {4, 4, 5}, {5, 0, 3}, {12, 0, 3}, {-1, 0, 3},
            {4, MIN, 5}, {4, MAX, 5}, {MAX, 0, 3}};
        for (int[] w : writes) {
            VeneerRows x = acting(a(0, 9), a(5, w[0], w[1]), a(3, 1));
            row(x, 1, 4, 40, 41);
            is("VALUE " + w[1] + " of NAME " + w[0] + ": RESULT stays", x.send(1, 3, 0), 10);
            is("its row", rowOf(x, 1, 4), w[2] != 0 ? "40 41" : w[1] == 0 ? "9 41" : "40 9");
            is("no other row", x.provides(1, 5), 0);
            is("fault", faults(x), w[2] == 0 ? "" : w[2] + "/1/" + w[0]);
        }
    }

    private static void actSends() {
        sentence(11, "6 SEND: RESULT becomes what NAME a, SENT to RESULT with b, answers.");
        for (int to : new int[] {0, 3, -1, 101, MIN, MAX}) {
            VeneerRows x = acting(a(1), a(6, 4, 8), a(3, 1));
            row(x, 1, 4, routineOf(x, a(1)));
            is("to " + to, x.send(1, 3, to), 1);
            is("to " + to, faults(x), "1/" + to + "/4");
        }
        VeneerRows x = acting(a(1), a(6, 4, 8), a(3, 1));
        row(x, 1, 4, routineOf(x, a(1)));
        is("to 1", x.send(1, 3, 1), 9);
        x.object(0, 0);
        is("to one without it", x.send(1, 3, 2), 1);
        x.group(0, 0, 0);
        is("to a CLASS", x.send(1, 3, 3), 1);
        is("faults", faults(x), "3/2/4 2/3/4");
        is("acts", x.count(6), 3);
    }

    private static void actSendsAs() {
        sentence(11, "7 SEND AS: what NAME a, SENT AS CLASS b to SELF with the ARGUMENT, answers.");
        int[][] faults = {{4, 0, 4}, {4, 2, 4}, {4, 3, 4}, {4, 9, 4}, {4, MIN, 4}, {5, 1, 3}, {12, 1, 3}, {-1, 1, 3}};
        for (int[] f : faults) {
            VeneerRows x = strict();
            x.group(0, 0, 0);
            x.object(1, 0);
            x.group(0, 0, 0);
            row(x, 1, 4, routineOf(x, a(1), a(3, 100)));
            row(x, 2, 3, routineOf(x, a(0, 7), a(7, f[0], f[1]), a(3, 1)));
            is("NAME " + f[0] + " as " + f[1], x.send(2, 3, 50), 1);
            is("NAME " + f[0] + " as " + f[1], faults(x), f[2] + "/2/" + f[0]);
            row(x, 2, 3, routineOf(x, a(0, 7), a(7, 4, 1), a(3, 1)));
            is("NAME 4 as 1", x.send(2, 3, 50), 151);
            x.object(1, 0);
            x.value(1, 4, 0, routineOf(x, a(2), a(3, 100)));
            row(x, 4, 3, x.read(2, 3, 0));
            is("SELF is 4", x.send(4, 3, 50), 105);
            is("SELF is 2", x.send(2, 3, 50), 103);
        }
    }

    private static void actMoves() {
        sentence(11, "8 MOVE SELF to RESULT (which stays).");
        int[] to = {0, 2, 1, 3, 4, 5, -1, MAX};
        String[] told = {"", "", "7/1/1", "7/1/3", "6/1/4", "6/1/5", "6/1/-1", "6/1/" + MAX};
        for (int k = 0; k < to.length; k++) {
            VeneerRows x = acting(a(1), a(8), a(3, 1));
            objects(x, 2);
            x.group(0, 0, 1);
            x.move(3, 1);
            x.move(1, 2);
            is("to " + to[k] + ": RESULT stays", x.send(1, 3, to[k]), to[k] + 1);
            is("to " + to[k], x.tree(1, 0), to[k] == 0 ? 0 : 2);
            is("to " + to[k], faults(x), told[k]);
        }
    }

    private static void actTree() {
        sentence(11, "9 RESULT becomes the PARENT of it, 10 its first CHILD, 11 its SIBLING");
        // In object 2 lie 4, 3 and 1, in that order; 5 is a class, 6 a free one.
        int[][] of = {{1, 2, 0, 0}, {2, 0, 4, 0}, {3, 2, 0, 1}, {4, 2, 0, 3}};
        for (int op = 9; op <= 11; op++) {
            VeneerRows x = acting(a(1), a(op), a(3, 10));
            objects(x, 3);
            x.group(0, 0, 1);
            x.move(1, 2);
            x.move(3, 2);
            x.move(4, 2);
            for (int[] row : of) {
                is("act " + op + " of " + row[0], x.send(1, 3, row[0]), row[op - 8] + 10);
            }
            is("no fault", x.count(4), 0);
            for (int v : new int[] {0, 5, 6, 7, -1, MIN}) {
                is("act " + op + " of " + v, x.send(1, 3, v), 10);
            }
            is("faults", faults(x), "6/0/0 6/5/0 6/6/0 6/7/0 6/-1/0 6/" + MIN + "/0");
        }
    }

    private static void actEndsAt0() {
        sentence(11, "12 if RESULT is 0, the ROUTINE ends.");
        for (int v : new int[] {0, 1, -1, MIN, MAX, 256, 1 << 16}) {
            VeneerRows x = acting(a(1), a(12), a(0, 77));
            is("with " + v, x.send(1, 3, v), v == 0 ? 0 : 77);
            is("acts", x.count(6), v == 0 ? 2 : 3);
        }
        VeneerRows x = acting(a(12), a(0, 77));
        is("as the first ACT", x.send(1, 3, 5), 0);
        is("as the first ACT", x.count(6), 1);
        VeneerRows y = acting(a(2), a(6, 4, 0), a(3, 5));
        row(y, 1, 4, routineOf(y, a(12), a(0, 77)));
        is("but not the one that it is RUN in", y.send(1, 3, 0), 5);
    }

    private static void actName() {
        sentence(11, "13 THE NAME of RESULT with article a comes to OUT.");
        String[] names = {"owl", "the owl", "an owl", "The owl"};
        for (int article = -1; article <= 4; article++) {
            VeneerRows x = acting(a(1), a(13, article), a(3, 1));
            x.called(1, textOf(x, "owl"), false);
            is("RESULT stays", x.send(1, 3, 1), 2);
            is("article " + article, said(x), article < 0 || article > 3 ? "owl" : names[article]);
            x.clear();
            is("of 0", x.send(1, 3, 0), 1);
            is("of 0", said(x), "nothing");
            x.clear();
            is("of no THING", x.send(1, 3, 2), 3);
            is("of no THING", said(x), "(none)");
            is("no fault", x.count(4), 0);
        }
    }

    private static void actIsOf() {
        sentence(11, "14 if RESULT IS OF CLASS a, RESULT is 1, and the ROUTINE ends; else RESULT is 0.");
        // 2 and 3 are the pool of class 1, 2 is there; 4 is of none, 5 of 1.
        for (int group : new int[] {1, 0, 2, 5, 6, -1, MIN, MAX}) {
            VeneerRows x = strict();
            x.group(0, 0, 2);
            x.object(0, 0);
            x.object(1, 0);
            x.send(1, 12, 0);
            row(x, 4, 3, routineOf(x, a(1), a(14, group), a(3, 10)));
            for (int v : new int[] {0, 1, 2, 3, 4, 5, 6, -1, 101, MAX}) {
                boolean isOf = group == 1 && (v == 2 || v == 5);
                is(v + " of " + group, x.send(4, 3, v), isOf ? 1 : 10);
                is(v + " of " + group + ": acts", x.count(6), isOf ? 2 : 3);
            }
            is("no fault", x.count(4), 0);
        }
    }

    // ---- within 12 others

    /**
     * Objects 1 to n, each in the one ahead of it, whose name 3 is a routine that sends it on to its child and answers
     * one more than that.
     */
    private static VeneerRows chain(int n) {
        VeneerRows x = strict();
        routineOf(x, a(2), a(10), a(12), a(6, 3, 0), a(3, 1));
        for (int k = 1; k <= n; k++) {
            x.object(0, 0);
            x.value(k, 3, 0, 201);
            x.move(k, k - 1);
        }
        return x;
    }

    private static void within12Sent() {
        sentence(11, "A ROUTINE that would be RUN within 12 others: FAULT 9 instead, its RESULT 0.");
        for (int n = 1; n <= 15; n++) {
            VeneerRows x = chain(n);
            is("a chain of " + n, x.send(1, 3, 0), Math.min(n - 1, 12));
            is("acts", x.count(6), n <= 12 ? 5 * (n - 1) + 3 : 60);
            is("faults", faults(x), n <= 12 ? "" : "9/13/0");
            is("from its second on", x.send(2, 3, 0), n == 1 ? 0 : Math.min(n - 2, 12));
            is("faults", faults(x), (n <= 12 ? "" : "9/13/0") + (n == 1 ? "1/2/3" : n < 14 ? "" : " 9/14/0"));
        }
        VeneerRows x = chain(12);
        x.object(0, 0);
        x.move(13, 12);
        textOf(x, "t");
        x.value(13, 3, 0, 101);
        is("a TEXT is none", x.send(1, 3, 0), 13);
        is("a TEXT is none", said(x), "t");
        x.value(13, 3, 0, 50);
        is("nor a VALUE", x.send(1, 3, 0), 62);
        is("no fault", x.count(4), 0);
        x.value(13, 3, 0, x.routine());
        is("but one without an ACT", x.send(1, 3, 0), 12);
        is("but one without an ACT", faults(x), "9/13/0");
    }

    private static void within12SentAs() {
        sentence(12, "A ROUTINE that would be RUN within 12 others: FAULT 9 instead");
        VeneerRows x = strict();
        x.group(0, 0, 0);
        x.object(1, 0);
        row(x, 2, 5, 0);
        row(x, 1, 3, routineOf(x, a(4, 5, 0), a(3, 1), a(5, 5, 0), a(7, 3, 1), a(3, 1)));
        is("itself again and again", x.sendAs(1, 2, 3, 0), 12);
        is("12 were RUN", x.read(2, 5, 0), 12);
        is("faults", faults(x), "9/2/0");
        is("acts", x.count(6), 60);
    }

    private static void within12Pool() {
        sentence(11, "A ROUTINE that would be RUN within 12 others");
        for (int depth = 11; depth <= 12; depth++) {
            for (int name = 12; name <= 15; name++) {
                VeneerRows x = chain(depth);
                int group = x.group(0, 0, 2);
                routineOf(x, a(0, 50), a(5, 5, 0));
                row(x, group, 5, 0);
                x.send(group, 12, 0);
                row(x, group, 1, 202);
                row(x, group + 1, 2, 202);
                // The hindmost of the chain sends this to the class.
                x.value(depth, 3, 0, routineOf(x, a(0, group), a(6, name, group + 1)));
                int answer = name == 12 ? group + 2 : 1;
                is("depth " + depth + ", NAME " + name, x.send(1, 3, 0), depth - 1 + answer);
                String told = name == 14 || depth == 11 ? "" : "9/" + (name == 12 ? group + 2 : group + 1) + "/0";
                is("faults", faults(x), name == 15 && depth == 12 ? told + " " + told : told);
                is("free", x.send(group, 14, 0), name == 12 ? 0 : name == 13 ? 2 : 1);
                int made = name == 12 ? group + 2 : group + 1;
                is("RUN or not", name == 13 ? 0 : x.read(made, 5, 0), depth == 11 && name % 3 == 0 ? 50 : 0);
            }
        }
    }

    private static void within12Others() {
        sentence(17, "A ROUTINE that would be RUN within 12 others");
        VeneerRows x = chain(13);
        // A loop's routines are within none: from 2 on there are 12.
        is("loop(1, 201)", x.loop(1, 201), 1);
        is("no fault", x.count(4), 0);
        is("acts", x.count(6), 58);
        is("send(1, 3, 0)", x.send(1, 3, 0), 12);
        is("send(1, 3, 0)", faults(x), "9/13/0");
        is("loop(1, 201)", x.loop(1, 201), 1);
        is("no fault more", x.count(4), 1);
        VeneerRows z = chain(14);
        is("from 2 on there are 13", z.loop(1, 201), 1);
        is("the 13th", faults(z), "9/14/0");
        is("acts", z.count(6), 60);
        VeneerRows y = strict();
        objects(y, 3);
        row(y, 1, 3, routineOf(y, a(1)));
        row(y, 2, 3, routineOf(y, a(0, 1), a(6, 3, 0), a(0, 1), a(6, 3, 0), a(0, 1), a(6, 3, 0), a(0, 1), a(6, 3, 1)));
        row(y, 3, 3, routineOf(y, a(0, 2), a(6, 3, 0), a(0, 2), a(6, 3, 0), a(0, 2), a(6, 3, 0), a(0, 2), a(6, 3, 1)));
        is("sixteen, one behind the other", y.send(3, 3, 0), 1);
        is("no fault", y.count(4), 0);
    }

    // ---- 200 acts

    /**
     * Object 2 of class 1, all of whose routines answer what the last one in them does. Name 3: eight acts, answer 8.
     * Name 4: 8 and 4 times name 3, 40. Name 5: 8 and 4 times name 4, 168. Name 6: 8 and names 5, 3, 3, 3: 200 acts.
     * Name 7: 8 and names 5, 3, 3, 8, which has seven acts and answers 7: 199 acts.
     */
    private static VeneerRows busy() {
        VeneerRows x = strict();
        x.group(0, 0, 0);
        int[] more = a(3, 1);
        row(x, 1, 3, routineOf(x, more, more, more, more, more, more, more, more));
        row(x, 1, 4, fourOf(x, 3, 3, 3, 3));
        row(x, 1, 5, fourOf(x, 4, 4, 4, 4));
        row(x, 1, 6, fourOf(x, 5, 3, 3, 3));
        row(x, 1, 7, fourOf(x, 5, 3, 3, 8));
        row(x, 1, 8, routineOf(x, more, more, more, more, more, more, more));
        x.object(1, 0);
        return x;
    }

    private static int fourOf(VeneerRows x, int... names) {
        int r = x.routine();
        for (int name : names) {
            x.act(r, 2, 0, 0);
            x.act(r, 6, name, 0);
        }
        return r;
    }

    private static void acts200() {
        sentence(11, "A call has 200 ACTS: with the first one more FAULT 10 is told");
        VeneerRows x = busy();
        is("199", x.send(2, 7, 0), 7);
        is("199", x.count(6), 199);
        is("200", x.send(2, 6, 0), 8);
        is("200", x.count(6), 200);
        is("200 by sendAs", x.sendAs(1, 2, 6, 0), 8);
        is("200 by sendAs", x.count(6), 200);
        row(x, 2, 9, routineOf(x, a(7, 7, 1)));
        is("one and 199", x.send(2, 9, 0), 7);
        is("one and 199", x.count(6), 200);
        is("no fault", x.count(4), 0);
        row(x, 2, 9, routineOf(x, a(7, 6, 1)));
        is("one and 200", x.send(2, 9, 0), 7);
        is("one and 200", x.count(6), 200);
        is("one and 200", faults(x), "10/2/0");
    }

    private static void acts201() {
        sentence(11, "ends where it would do one, with the RESULT that it has");
        for (int ahead = 1; ahead <= 7; ahead++) {
            VeneerRows x = busy();
            int r = x.routine();
            for (int k = 1; k < ahead; k++) {
                x.act(r, 0, 99, 0);
            }
            x.act(r, 7, 6, 1);
            x.act(r, 0, 55, 0);
            row(x, 2, 9, r);
            is(ahead + " and 200: the last one lacks as many", x.send(2, 9, 0), 8 - ahead);
            is("acts", x.count(6), 200);
            is("faults", faults(x), "10/2/0");
        }
    }

    private static void actsGoOn() {
        sentence(11, "and each ROUTINE that is RUN from there on, or goes on, ends where it would do one");
        VeneerRows x = busy();
        // Name 9 has 198 acts and answers 7.
        row(x, 1, 9, fourOf(x, 5, 3, 8, 8));
        x.object(1, 0);
        objects(x, 2);
        row(x, 4, 9, routineOf(x, a(0, 3), a(6, 9, 0)));
        is("2 and 198", x.send(4, 9, 0), 7);
        is("2 and 198", x.count(6), 200);
        is("no fault", x.count(4), 0);
        row(x, 4, 9, routineOf(x, a(0, 3), a(6, 9, 0), a(3, 100)));
        is("it would go on", x.send(4, 9, 0), 7);
        is("acts", x.count(6), 200);
        is("faults", faults(x), "10/4/0");
        row(x, 5, 9, routineOf(x, a(0, 4), a(6, 9, 0), a(3, 1000)));
        is("three would go on", x.send(5, 9, 0), 5);
        is("acts", x.count(6), 200);
        is("faults", faults(x), "10/4/0 10/3/0");
    }

    private static void actsRunFromThere() {
        sentence(17, "each ROUTINE that is RUN from there on");
        VeneerRows x = strict();
        int eight = routineOf(x, a(4, 3, 0), a(3, 1), a(3, 1), a(3, 1), a(3, 1), a(3, 1), a(3, 1), a(5, 3, 0));
        x.object(0, 0);
        for (int k = 2; k <= 28; k++) {
            x.object(0, 0);
            x.value(k, 3, 0, 0);
            x.move(k, 1);
        }
        is("all 27 went", x.loop(1, eight), 27);
        is("acts", x.count(6), 200);
        is("the 25th did all", x.read(4, 3, 0), 6);
        is("the 26th none", x.read(3, 3, 0), 0);
        is("the 27th none", x.read(2, 3, 0), 0);
        is("told of the 26th", faults(x), "10/3/0");
        x.move(2, 0);
        x.move(3, 0);
        is("25 of 8", x.loop(1, eight), 25);
        is("25 of 8", x.count(6), 200);
        is("no fault more", x.count(4), 1);
        VeneerRows y = busy();
        // Name 10 has 8, 168, 7 and 7 acts, and name 11's 8 with name 9's 2: the 200th sends create. The object is
        // there then, and what is run for it ends at once.
        int group = y.group(0, 0, 1);
        row(y, group, 5, 1);
        row(y, group, 1, routineOf(y, a(0, 9), a(5, 5, 0)));
        row(y, 1, 9, routineOf(y, a(0, group), a(6, 12, 0)));
        row(y, 1, 10, fourOf(y, 5, 8, 8, 11));
        row(y, 1, 11, routineOf(y, a(0), a(0), a(0), a(0), a(0), a(0), a(0), a(7, 9, 1)));
        int maker = y.object(1, 0);
        is("the 200th creates", y.send(maker, 10, 0), group + 1);
        is("acts", y.count(6), 200);
        is("it is there", y.meta(group + 1), 2);
        is("NAME 1 did no ACT", y.read(group + 1, 5, 0), 1);
        is("told of it", faults(y), "10/" + (group + 1) + "/0");
    }

    private static void actsOnceACall() {
        sentence(11, "(FAULT 10 once a call)");
        VeneerRows x = busy();
        // Names 9 and 10 have 808 and 168 acts: many end where they would do one.
        row(x, 2, 10, fourOf(x, 5, 5, 5, 5));
        row(x, 2, 9, fourOf(x, 6, 6, 10, 6));
        x.send(2, 9, 0);
        is("once", faults(x), "10/2/0");
        x.sendAs(1, 2, 6, 0);
        is("not with 200", faults(x), "10/2/0");
        x.send(2, 10, 0);
        is("again in the next call", faults(x), "10/2/0 10/2/0");
        x.object(0, 0);
        x.move(2, 3);
        x.loop(3, x.read(2, 9, 0));
        is("and in a loop", faults(x), "10/2/0 10/2/0 10/2/0");
        VeneerRows y = new VeneerRows(0);
        y.object(0, 0);
        int again = routineOf(y, a(2), a(6, 3, 0), a(2), a(6, 3, 0), a(2), a(6, 3, 0), a(2), a(6, 3, 0));
        y.value(1, 3, 0, again);
        is("without STRICT", y.send(1, 3, 0), 0);
        is("without STRICT: acts", y.count(6), 200);
        is("without STRICT: faults", y.count(4), 0);
    }

    // ---- pools

    private static void createLeast() {
        sentence(11, "CREATE, SENT to a CLASS: its FREE OBJECT of the least number is THERE");
        VeneerRows x = strict();
        x.group(0, 0, 6);
        x.group(1, 0, 1);
        for (int k = 2; k <= 7; k++) {
            is("create", x.send(1, 12, 0), k);
            is("there", x.meta(k), 2);
            is("the next one is not", x.meta(k + 1), k == 7 ? 1 : 0);
        }
        is("none of the next CLASS", x.send(1, 12, 0), 0);
        is("that is its own", x.send(8, 14, 0), 1);
        x.send(1, 13, 5);
        x.send(1, 13, 7);
        x.send(1, 13, 3);
        is("the least", x.send(1, 12, 0), 3);
        is("the least", x.send(1, 12, 0), 5);
        is("the last", x.send(1, 12, 0), 7);
        is("none", x.send(1, 12, 0), 0);
        is("no fault", x.count(4), 0);
    }

    private static void createNone() {
        sentence(11, "the answer is the OBJECT (0 without a FREE one, no FAULT).");
        quiet("without a POOL", 0, x -> x.send(1, 12, 0));
        quiet("with an empty one", 0, x -> {
            house(x);
            x.send(2, 12, 0);
            row(x, 2, 1, 202);
        }, x -> x.send(2, 12, 7));
        VeneerRows x = newHouse(1);
        row(x, 2, 1, routineOf(x, a(0, 99)));
        is("the OBJECT, whatever NAME 1 answers", x.send(2, 12, 0), 4);
    }

    private static void createRows() {
        sentence(11, "is THERE, with ROWS as if it came now");
        VeneerRows x = strict();
        x.group(0, 0, 0);
        row(x, 1, 0, 1, 2, 3);
        row(x, 1, 3, 30);
        x.group(1, 0, 1);
        row(x, 2, 0, 7, 8);
        row(x, 2, 11, 4, 5, 6, 7);
        x.value(3, 3, 0, 31);
        x.value(3, 9, 0, 90);
        x.called(3, textOf(x, "t"), true);
        is("create", x.send(2, 12, 0), 3);
        is("rows", rowOf(x, 3, 0) + "," + rowOf(x, 3, 3) + "," + rowOf(x, 3, 9) + "," + rowOf(x, 3, 11),
            "7 8 1 2,30,,4 5 6 7");
        x.value(3, 9, 0, 91);
        x.write(3, 0, 0, 99);
        x.send(2, 13, 3);
        x.value(1, 3, 1, 32);
        is("create again", x.send(2, 12, 0), 3);
        is("rows", rowOf(x, 3, 0) + "," + rowOf(x, 3, 3) + "," + rowOf(x, 3, 9), "7 8 1 2,30 32,");
        is("its TEXT is no ROW", x.name(3, 1), 1);
    }

    private static void createName1() {
        sentence(11, "then, if it has a ROW of NAME 1, that is SENT to it with the ARGUMENT");
        for (int argument : new int[] {MIN, -1, 0, MAX}) {
            VeneerRows x = strict();
            x.group(0, 0, 1);
            row(x, 1, 5, 7);
            row(x, 1, 1, routineOf(x, a(1), a(5, 5, 0), a(2), a(13)));
            is("create", x.send(1, 12, argument), 2);
            is("with " + argument, x.read(2, 5, 0), argument);
            is("its rows came first, and it is there", said(x), "(2)");
        }
        VeneerRows x = strict();
        x.group(0, 0, 3);
        row(x, 1, 2, textOf(x, "two"));
        is("without one", x.send(1, 12, 0), 2);
        is("without one", x.count(5) + x.count(4), 0);
        row(x, 1, 1, textOf(x, "one"));
        is("a TEXT", x.send(1, 12, 0), 3);
        is("a TEXT", said(x), "one");
        x.value(1, 1, 0, 0);
        is("a VALUE", x.send(1, 12, 0), 4);
        is("a VALUE", x.count(5), 3);
        is("no fault", x.count(4), 0);
    }

    private static void destroyWhat() {
        sentence(11, "DESTROY: the ARGUMENT is one of its POOL that is THERE, else FAULT 8");
        poolArguments(13);
        VeneerRows x = strict();
        x.object(0, 0);
        x.group(0, 0, 3);
        for (int k = 0; k < 3; k++) {
            x.send(2, 12, 0);
        }
        x.object(2, 0);
        for (int v : new int[] {1, 2, 6}) {
            is("not " + v, x.send(2, 13, v), 0);
        }
        is("the first", x.send(2, 13, 3), 1);
        is("the last", x.send(2, 13, 5), 1);
        is("the first again", x.send(2, 13, 3), 0);
        is("metas", "" + x.meta(1) + x.meta(2) + x.meta(3) + x.meta(4) + x.meta(5) + x.meta(6), "210202");
        is("faults", faults(x), "8/2/1 8/2/2 8/2/6 8/2/3");
    }

    /** In the house 3 alone is of class 2's pool and there; 8 is there and of the pool of class 7, which is of 2. */
    private static void poolArguments(int name) {
        for (int v : new int[] {0, 1, 2, 4, 5, 6, 7, 8, 9, -1, 41, 101, 201, 301, MIN, MAX}) {
            faulty("argument " + v, "8/2/" + v, x -> {
                house(x);
                x.group(2, 0, 1);
                x.send(7, 12, 0);
            }, x -> x.send(2, name, v));
            faulty("a CLASS without a POOL, argument " + v, "8/1/" + v, x -> x.send(1, name, v));
        }
        faulty("a CLASS without a POOL, argument 3", "8/1/3", x -> x.send(1, name, 3));
        VeneerRows x = newHouse(1);
        is("argument 3", x.send(2, name, 3), 1);
        is("no fault more", x.count(4), 1);
    }

    private static void destroyName2() {
        sentence(11, "if it has a ROW of NAME 2, that is SENT to it with 0");
        VeneerRows x = strict();
        x.group(0, 0, 1);
        row(x, 1, 1, textOf(x, "one"));
        x.send(1, 12, 0);
        x.clear();
        is("without one", x.send(1, 13, 2), 1);
        is("without one", x.count(5), 0);
        row(x, 1, 2, routineOf(x, a(1), a(13), a(2), a(13)));
        x.send(1, 12, 9);
        x.clear();
        is("with one", x.send(1, 13, 2), 1);
        is("it is there still, and the ARGUMENT is 0", said(x), "nothing(2)");
        row(x, 1, 2, 101);
        x.send(1, 12, 9);
        x.clear();
        is("a TEXT", x.send(1, 13, 2), 1);
        is("a TEXT", said(x), "one");
        x.value(1, 2, 0, -7);
        x.send(1, 12, 9);
        is("a VALUE", x.send(1, 13, 2), 1);
        x.send(1, 12, 9);
        x.value(1, 2, 0, 101);
        x.clear();
        is("its own ROW, not its CLASS's", x.send(1, 13, 2), 1);
        is("its own ROW, not its CLASS's", x.count(5), 0);
        is("no fault", x.count(4), 0);
    }

    private static void destroyStillThere() {
        sentence(11, "then, if it is THERE still, it and its CHILDREN lie in NOTHING, and it is FREE; the "
            + "answer is 1 in any case.");
        VeneerRows x = strict();
        // It is destroyed in its own end, at which name 2 is a value by then.
        int end = routineOf(x, a(0, 0), a(5, 2, 0), a(0, 1), a(6, 13, 2), a(5, 3, 0));
        x.group(0, 0, 1);
        row(x, 1, 2, end);
        row(x, 1, 3, 0);
        x.send(1, 12, 0);
        is("destroyed within", x.send(1, 13, 2), 1);
        is("destroyed within", x.meta(2), 0);
        is("act 5 found it gone", faults(x), "1/2/3");
        is("free", x.send(1, 14, 0), 1);
        VeneerRows y = strict();
        // It is destroyed and made again within; in the end it is there, and so it goes.
        int round = routineOf(y, a(0, 0), a(5, 2, 0), a(0, 1), a(6, 13, 2), a(0, 1), a(6, 12, 0));
        y.group(0, 0, 1);
        row(y, 1, 2, round);
        y.send(1, 12, 0);
        is("made again within", y.send(1, 13, 2), 1);
        is("made again within", y.meta(2), 0);
        is("no fault", y.count(4), 0);
    }

    private static void destroyTree() {
        sentence(11, "it and its CHILDREN lie in NOTHING, and it is FREE");
        VeneerRows x = strict();
        x.group(0, 0, 1);
        objects(x, 5);
        x.send(1, 12, 0);
        x.move(3, 4);
        x.move(2, 4);
        x.move(7, 4);
        x.move(5, 2);
        x.move(6, 2);
        is("ahead", childrenOf(x, 4) + "," + childrenOf(x, 2), "7 2 3,6 5");
        x.object(0, 0);
        x.move(8, 5);
        is("destroy", x.send(1, 13, 2), 1);
        is("the others stay", childrenOf(x, 4), "7 3");
        is("its children", x.tree(5, 0) + x.tree(6, 0) + x.tree(6, 2) + x.tree(5, 2), 0);
        is("but not theirs", x.tree(8, 0), 5);
        is("free", x.meta(2), 0);
        x.send(1, 12, 0);
        is("made again", "" + x.tree(2, 0) + x.tree(2, 1) + x.tree(2, 2) + x.tree(2, 3), "0000");
        is("without a PARENT and CHILDREN", x.send(1, 13, 2), 1);
        is("the others stay", childrenOf(x, 4), "7 3");
        is("no fault", x.count(4), 0);
        VeneerRows y = strict();
        // All other objects lie in it, the first thing of all among them.
        objects(y, 38);
        y.group(0, 0, 1);
        y.send(39, 12, 0);
        for (int k = 1; k <= 38; k++) {
            y.move(k, 40);
        }
        is("38 CHILDREN", y.tree(40, 3), 38);
        is("destroy", y.send(39, 13, 40), 1);
        int left = 0;
        for (int k = 1; k <= 38; k++) {
            left += y.tree(k, 0) + y.tree(k, 2);
        }
        is("all lie in NOTHING", left, 0);
        y.send(39, 12, 0);
        is("made again", y.tree(40, 3), 0);
        y.move(2, 1);
        y.move(40, 1);
        is("destroy", y.send(39, 13, 40), 1);
        is("the other one stays", childrenOf(y, 1), "2");
    }

    private static void recreateWhat() {
        sentence(11, "RECREATE: FAULT 8, NAME 2 likewise");
        poolArguments(15);
        VeneerRows x = strict();
        x.group(0, 0, 1);
        row(x, 1, 2, routineOf(x, a(1), a(13), a(2), a(13)));
        x.send(1, 12, 5);
        is("recreate", x.send(1, 15, 2), 1);
        is("NAME 2, with 0", said(x), "nothing(2)");
        is("there", x.meta(2), 2);
        is("remaining", x.send(1, 14, 0), 0);
    }

    private static void recreateStillThere() {
        sentence(11, "if it is THERE still: ROWS as if it came now");
        VeneerRows x = strict();
        // Name 2 destroys it (once: then it is a value): name 1 is not sent to it.
        int end = routineOf(x, a(0, 0), a(5, 2, 0), a(0, 1), a(6, 13, 2));
        x.group(0, 0, 1);
        row(x, 1, 1, textOf(x, "one"));
        row(x, 1, 2, end);
        x.send(1, 12, 0);
        row(x, 1, 5, 50, 51);
        x.clear();
        is("it is not", x.send(1, 15, 2), 1);
        is("it is not", x.meta(2), 0);
        is("NAME 1 is not SENT", x.count(5), 0);
        is("nor has it the ROW that came to its CLASS since", x.value(2, 5, 1, 9), OUTSIDE);
        is("no fault", x.count(4), 0);
    }

    private static void recreateRows() {
        sentence(11, "if it is THERE still: ROWS as if it came now, then NAME 1 with 0, if there");
        VeneerRows x = strict();
        x.group(0, 0, 1);
        row(x, 1, 0, 1);
        x.group(1, 0, 1);
        row(x, 3, 0, 2, 3);
        row(x, 3, 5, 50);
        objects(x, 2);
        x.send(3, 12, 0);
        x.move(4, 5);
        x.move(6, 4);
        x.value(4, 0, 0, 9);
        x.value(4, 5, 1, 51);
        x.value(4, 9, 0, 90);
        x.value(1, 11, 0, 110);
        is("recreate without NAMES 1 and 2", x.send(3, 15, 4), 1);
        is("rows", rowOf(x, 4, 0) + "," + rowOf(x, 4, 5) + "," + rowOf(x, 4, 9) + "," + rowOf(x, 4, 11),
            "2 3 1,50,,110");
        is("it lies where it lay", "" + x.tree(4, 0) + x.tree(4, 1), "56");
        is("no fault", x.count(4), 0);
    }

    private static void recreateName1() {
        sentence(11, "then NAME 1 with 0, if there; 1 in any case.");
        VeneerRows x = strict();
        x.group(0, 0, 1);
        row(x, 1, 5, 7);
        row(x, 1, 1, routineOf(x, a(4, 5, 0), a(3, 1), a(5, 5, 0), a(1), a(13), a(0, 33)));
        row(x, 1, 2, routineOf(x, a(4, 5, 0), a(3, 100), a(5, 5, 0), a(2), a(13)));
        x.send(1, 12, 0);
        x.clear();
        is("recreate", x.send(1, 15, 2), 1);
        is("NAME 2, then NAME 1 with 0", said(x), "(2)nothing");
        is("the ROWS came between them", x.read(2, 5, 0), 8);
        // What has just come has the row that its class has now.
        x.value(2, 1, 0, textOf(x, "old"));
        x.value(2, 2, 0, 0);
        x.value(1, 1, 0, textOf(x, "new"));
        x.clear();
        is("recreate", x.send(1, 15, 2), 1);
        is("the CLASS's ROW", said(x), "new");
        VeneerRows y = strict();
        y.group(0, 0, 1);
        row(y, 1, 1, routineOf(y, a(0, 1), a(6, 13, 2)));
        y.send(1, 12, 0);
        is("NAME 1 destroyed it", y.meta(2), 0);
        y.value(1, 1, 0, 0);
        y.send(1, 12, 0);
        y.value(1, 1, 0, 201);
        is("recreate what NAME 1 destroys", y.send(1, 15, 2), 1);
        is("recreate what NAME 1 destroys", y.meta(2), 0);
        is("no fault", y.count(4), 0);
    }

    private static void remaining() {
        sentence(11, "REMAINING: how many are FREE.");
        for (int pool = 0; pool <= 6; pool++) {
            VeneerRows x = strict();
            x.group(0, 0, pool);
            x.group(1, 0, 3);
            for (int k = 0; k < pool; k++) {
                is(k + " of " + pool, x.send(1, 14, 0), pool - k);
                x.send(1, 12, 0);
            }
            is("all of " + pool, x.send(1, 14, 0), 0);
            x.send(1, 12, 0);
            is("none below 0", x.send(1, 14, MIN), 0);
            for (int k = 1; k <= pool; k++) {
                x.send(1, 13, 1 + k);
                is("back " + k, x.send(1, 14, 0), k);
            }
            is("another CLASS's", x.send(pool + 2, 14, 0), 3);
            is("no fault", x.count(4), 0);
        }
    }
}
