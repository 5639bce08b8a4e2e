import java.util.Arrays;

/**
 * What a story house writes into its stories to run them: classes and objects with rows of values, messages and
 * routines, a tree of objects, pools, arrays, names with articles, and in strict mode every fault told.
 * The capital words of the document (THING, ROW, LINE, ..) are written small here.
 */
public final class VeneerRows {
    public static final int NONE = -1, UNKNOWN = -2, OUTSIDE = -3, ROOM = -4;

    private static final int MOST_THINGS = 40, MOST_POOL = 6;
    private static final int FIRST_TEXT = 101, MOST_TEXTS = 20, MOST_LETTERS = 20;
    private static final int FIRST_ROUTINE = 201, MOST_ROUTINES = 20, MOST_ACTS = 8;
    private static final int FIRST_ARRAY = 301, MOST_ARRAYS = 10, MOST_WORDS = 10;
    private static final int NAMES = 12, MOST_VALUES = 4;
    private static final int MOST_OUT = 400, MOST_FAULTS = 30;
    private static final int MOST_NESTED = 12, ACTS_A_CALL = 200, MOST_LOOPED = 40;

    private static final int META_CLASS = 1, META_OBJECT = 2, META_TEXT = 3, META_ROUTINE = 4, META_ARRAY = 5;

    private static final int NAME_ADDED_UP = 0, NAME_AT_CREATION = 1, NAME_AT_DESTRUCTION = 2;
    private static final int CREATE = 12, DESTROY = 13, REMAINING = 14, RECREATE = 15;

    private static final int OP_RESULT = 0, OP_ARGUMENT = 1, OP_SELF = 2, OP_ADD = 3, OP_READ = 4, OP_WRITE = 5;
    private static final int OP_SEND = 6, OP_SEND_AS = 7, OP_MOVE = 8, OP_PARENT = 9, OP_CHILD = 10, OP_SIBLING = 11;
    private static final int OP_END_AT_0 = 12, OP_NAME = 13, OP_IS_OF = 14;

    private static final int WHAT_PARENT = 0, WHAT_CHILD = 1, WHAT_SIBLING = 2;

    private static final int FAULT_NO_THING = 1, FAULT_NO_CLASS_MESSAGE = 2, FAULT_NO_ROW = 3, FAULT_NOT_OF = 4;
    private static final int FAULT_NO_VALUE = 5, FAULT_NO_OBJECT = 6, FAULT_WITHIN_ITSELF = 7, FAULT_NOT_OF_POOL = 8;
    private static final int FAULT_NESTED = 9, FAULT_ACTS = 10, FAULT_BROKEN_LOOP = 11, FAULT_BEYOND_ARRAY = 12;
    private static final int FAULT_NO_ROUTINE = 13, FAULT_NO_ARRAY = 14;

    private final Thing[] things = new Thing[MOST_THINGS];
    private final Text[] texts = new Text[MOST_TEXTS];
    private final Routine[] routines = new Routine[MOST_ROUTINES];
    private final WordArray[] arrays = new WordArray[MOST_ARRAYS];
    private final Tree forest = new Tree();
    private final Output output = new Output();
    private final FaultList faults;
    private Text draft = new Text();
    private int thingCount;
    private int textCount;
    private int routineCount;
    private int arrayCount;
    private int actsDone;
    private boolean actsFaultTold;

    public VeneerRows(int strict) {
        faults = new FaultList(strict != 0);
    }

    // ---- what is built

    public int letter(int c) {
        if (c < 32 || c > 126) {
            return OUTSIDE;
        }
        if (draft.length >= MOST_LETTERS) {
            return ROOM;
        }
        draft.add((byte) c);
        return draft.length;
    }

    public int text() {
        if (textCount < 0 || textCount >= MOST_TEXTS) {
            return ROOM;
        }
        texts[textCount] = draft;
        draft = new Text();
        textCount++;
        return FIRST_TEXT + textCount - 1;
    }

    public int routine() {
        if (routineCount < 0 || routineCount >= MOST_ROUTINES) {
            return ROOM;
        }
        routines[routineCount] = new Routine();
        routineCount++;
        return FIRST_ROUTINE + routineCount - 1;
    }

    public int act(int routine, int op, int a, int b) {
        Routine wanted = routineAt(routine);
        if (wanted == null) {
            return UNKNOWN;
        }
        if (op < OP_RESULT || op > OP_IS_OF) {
            return OUTSIDE;
        }
        if (wanted.length >= MOST_ACTS) {
            return ROOM;
        }
        wanted.add(op, a, b);
        return wanted.length;
    }

    public int group(int first, int second, int pool) {
        if (!isNoneOrClass(first) || !isNoneOrClass(second)) {
            return UNKNOWN;
        }
        if (pool < 0 || pool > MOST_POOL) {
            return OUTSIDE;
        }
        if (thingCount + 1 + pool > MOST_THINGS) {
            return ROOM;
        }
        int number = thingCount + 1;
        Line line = new Line();
        line.add(number);
        addLines(line, first, second);
        addThing(new Thing(true, line, pool));
        for (int k = 0; k < pool; k++) {
            // All of a pool have the very line of their class, which never changes again.
            Thing free = new Thing(false, line, 0);
            takeRowsOfLine(free);
            addThing(free);
        }
        return number;
    }

    public int object(int first, int second) {
        if (!isNoneOrClass(first) || !isNoneOrClass(second)) {
            return UNKNOWN;
        }
        if (thingCount >= MOST_THINGS) {
            return ROOM;
        }
        Line line = new Line();
        addLines(line, first, second);
        Thing made = new Thing(false, line, 0);
        made.there = true;
        takeRowsOfLine(made);
        addThing(made);
        return thingCount;
    }

    public int value(int thing, int name, int i, int v) {
        Thing wanted = thingAt(thing);
        if (wanted == null) {
            return UNKNOWN;
        }
        if (!Rows.isName(name) || i < 0 || i >= MOST_VALUES || i > wanted.rows.lengthOf(name)) {
            return OUTSIDE;
        }
        if (i == wanted.rows.lengthOf(name)) {
            wanted.rows.add(name, v);
        } else {
            wanted.rows.put(name, i, v);
        }
        return wanted.rows.lengthOf(name);
    }

    public int array(int words) {
        if (words < 1 || words > MOST_WORDS) {
            return OUTSIDE;
        }
        if (arrayCount < 0 || arrayCount >= MOST_ARRAYS) {
            return ROOM;
        }
        arrays[arrayCount] = new WordArray(words);
        arrayCount++;
        return FIRST_ARRAY + arrayCount - 1;
    }

    public int called(int thing, int text, boolean proper) {
        Thing wanted = thingAt(thing);
        Text wantedText = textAt(text);
        if (wanted == null || (text != 0 && wantedText == null)) {
            return UNKNOWN;
        }
        wanted.text = wantedText;
        wanted.proper = proper;
        return 1;
    }

    // ---- what stories do

    public int send(int to, int name, int argument) {
        startActs();
        return sendTo(to, name, argument, 0);
    }

    public int sendAs(int group, int to, int name, int argument) {
        startActs();
        return sendToAs(group, to, name, argument, 0);
    }

    public int read(int of, int name, int i) {
        Thing asked = thingWithValue(of, name, i);
        return asked == null ? 0 : asked.rows.at(name, i);
    }

    public int write(int of, int name, int i, int v) {
        Thing asked = thingWithValue(of, name, i);
        if (asked == null) {
            return 0;
        }
        asked.rows.put(name, i, v);
        return v;
    }

    public int move(int a, int b) {
        if (meta(a) != META_OBJECT || (b != 0 && meta(b) != META_OBJECT)) {
            return faults.tell(FAULT_NO_OBJECT, a, b);
        }
        if (forest.isInOrAt(b, a)) {
            return faults.tell(FAULT_WITHIN_ITSELF, a, b);
        }
        forest.lift(a);
        forest.put(a, b);
        return 1;
    }

    public int tree(int of, int what) {
        if (meta(of) != META_OBJECT) {
            return faults.tell(FAULT_NO_OBJECT, of, 0);
        }
        switch (what) {
            case WHAT_PARENT: return forest.parentOf(of);
            case WHAT_CHILD: return forest.childOf(of);
            case WHAT_SIBLING: return forest.siblingOf(of);
            default: return forest.childrenOf(of);
        }
    }

    public int loop(int of, int routine) {
        startActs();
        if (meta(of) != META_OBJECT) {
            return faults.tell(FAULT_NO_OBJECT, of, 0);
        }
        if (meta(routine) != META_ROUTINE) {
            return faults.tell(FAULT_NO_ROUTINE, of, routine);
        }
        int child = forest.childOf(of);
        int went = 0;
        while (child != 0 && went < MOST_LOOPED) {
            int next = forest.siblingOf(child);
            run(routine, child, of, 0);
            went++;
            if (next != 0 && forest.parentOf(next) != of) {
                faults.tell(FAULT_BROKEN_LOOP, next, 0);
                return went;
            }
            child = next;
        }
        return went;
    }

    public int meta(int v) {
        Thing thing = thingAt(v);
        if (thing != null) {
            return thing.isClass ? META_CLASS : thing.there ? META_OBJECT : 0;
        }
        if (textAt(v) != null) {
            return META_TEXT;
        }
        if (routineAt(v) != null) {
            return META_ROUTINE;
        }
        return arrayAt(v) != null ? META_ARRAY : 0;
    }

    public int isOf(int v, int group) {
        Thing thing = thingAt(v);
        return thing != null && !thing.isClass && thing.there && thing.line.has(group) ? 1 : 0;
    }

    public int provides(int v, int name) {
        Thing asked = answeringThing(v);
        return asked == null ? 0 : asked.rows.lengthOf(name);
    }

    public int word(int array, int i) {
        WordArray asked = arrayWithWord(array, i, i);
        return asked == null ? 0 : asked.at(i);
    }

    public int setWord(int array, int i, int v) {
        WordArray asked = arrayWithWord(array, i, i);
        if (asked == null) {
            return 0;
        }
        asked.put(i, v);
        return v;
    }

    public int byteOf(int array, int i) {
        // Of a place below 0 the word is to be below 0, too: -1 / 4 would be 0.
        int word = Math.floorDiv(i, 4);
        WordArray asked = arrayWithWord(array, word, i);
        return asked == null ? 0 : (asked.at(word) >>> (24 - 8 * Math.floorMod(i, 4))) & 255;
    }

    public int name(int v, int article) {
        Thing thing = answeringThing(v);
        if (thing == null) {
            output.say(v == 0 ? "nothing" : "(none)");
        } else {
            sayName(thing, v, article);
        }
        return output.length;
    }

    // ---- what is told

    public int out(int i) {
        return output.at(i);
    }

    public int clear() {
        int had = output.length;
        output.length = 0;
        return had;
    }

    public int fault(int i, int what) {
        return faults.at(i, what);
    }

    public int count(int what) {
        switch (what) {
            case 0: return thingCount;
            case 1: return textCount;
            case 2: return routineCount;
            case 3: return arrayCount;
            case 4: return faults.length;
            case 5: return output.length;
            case 6: return actsDone;
            case 7: return draft.length;
            default: return NONE;
        }
    }

    // ---- numbers and what they stand for

    private Thing thingAt(int v) {
        return v >= 1 && v <= thingCount && v <= MOST_THINGS ? things[v - 1] : null;
    }

    private Text textAt(int v) {
        return v >= FIRST_TEXT && v < FIRST_TEXT + textCount && v < FIRST_TEXT + MOST_TEXTS
            ? texts[v - FIRST_TEXT] : null;
    }

    private Routine routineAt(int v) {
        return v >= FIRST_ROUTINE && v < FIRST_ROUTINE + routineCount && v < FIRST_ROUTINE + MOST_ROUTINES
            ? routines[v - FIRST_ROUTINE] : null;
    }

    private WordArray arrayAt(int v) {
        return v >= FIRST_ARRAY && v < FIRST_ARRAY + arrayCount && v < FIRST_ARRAY + MOST_ARRAYS
            ? arrays[v - FIRST_ARRAY] : null;
    }

    /** The class, or the object that is there, of this number; null for all others. */
    private Thing answeringThing(int v) {
        Thing thing = thingAt(v);
        return thing != null && (thing.isClass || thing.there) ? thing : null;
    }

    private boolean isNoneOrClass(int v) {
        return v == 0 || meta(v) == META_CLASS;
    }

    // ---- lines and rows

    private void addThing(Thing thing) {
        if (thingCount >= 0 && thingCount < MOST_THINGS) {
            things[thingCount] = thing;
            thingCount++;
        }
    }

    private void addLines(Line line, int first, int second) {
        Thing firstThing = thingAt(first);
        if (firstThing != null) {
            line.addAll(firstThing.line);
        }
        Thing secondThing = thingAt(second);
        if (secondThing != null) {
            line.addAll(secondThing.line);
        }
    }

    private void takeRowsOfLine(Thing thing) {
        thing.rows.clearAll();
        for (int k = 0; k < thing.line.length; k++) {
            Thing group = thingAt(thing.line.at(k));
            if (group != null) {
                thing.rows.inherit(group.rows);
            }
        }
    }

    /** The thing, if it has value i of this name; else null, and the fault is told. */
    private Thing thingWithValue(int of, int name, int i) {
        Thing asked = answeringThing(of);
        if (asked == null) {
            faults.tell(FAULT_NO_THING, of, name);
            return null;
        }
        int length = asked.rows.lengthOf(name);
        if (i >= 0 && i < length) {
            return asked;
        }
        faults.tell(length == 0 ? FAULT_NO_ROW : FAULT_NO_VALUE, of, name);
        return null;
    }

    /** The array, if it has that word; else null, and the fault is told with the place that was asked for. */
    private WordArray arrayWithWord(int array, int word, int place) {
        WordArray asked = arrayAt(array);
        if (asked != null && asked.has(word)) {
            return asked;
        }
        faults.tell(asked == null ? FAULT_NO_ARRAY : FAULT_BEYOND_ARRAY, array, place);
        return null;
    }

    // ---- messages; within is how many routines stand open around them

    private void startActs() {
        actsDone = 0;
        actsFaultTold = false;
    }

    private int sendTo(int to, int name, int argument, int within) {
        Thing receiver = answeringThing(to);
        if (receiver == null) {
            return faults.tell(FAULT_NO_THING, to, name);
        }
        if (receiver.isClass) {
            return sendToClass(to, name, argument, within);
        }
        return answerOfRow(receiver.rows, to, name, argument, within);
    }

    private int sendToClass(int group, int name, int argument, int within) {
        switch (name) {
            case CREATE: return createOne(group, argument, within);
            case DESTROY: return destroyOne(group, argument, within);
            case REMAINING: return freeOnes(group);
            case RECREATE: return recreateOne(group, argument, within);
            default: return faults.tell(FAULT_NO_CLASS_MESSAGE, group, name);
        }
    }

    private int sendToAs(int group, int to, int name, int argument, int within) {
        if (meta(to) != META_OBJECT) {
            return faults.tell(FAULT_NO_THING, to, name);
        }
        Thing asked = thingAt(group);
        if (asked == null || isOf(to, group) == 0) {
            return faults.tell(FAULT_NOT_OF, to, name);
        }
        return answerOfRow(asked.rows, to, name, argument, within);
    }

    private int answerOfRow(Rows rows, int self, int name, int argument, int within) {
        if (rows.lengthOf(name) == 0) {
            return faults.tell(FAULT_NO_ROW, self, name);
        }
        int v = rows.at(name, 0);
        Text text = textAt(v);
        if (text != null) {
            output.say(text);
            return 1;
        }
        return routineAt(v) != null ? run(v, self, argument, within) : v;
    }

    // ---- pools

    private int freeOnes(int group) {
        Thing owner = thingAt(group);
        int free = 0;
        for (int k = 1; owner != null && k <= owner.pool; k++) {
            free += meta(group + k) == META_OBJECT ? 0 : 1;
        }
        return free;
    }

    private int leastFree(int group) {
        Thing owner = thingAt(group);
        for (int k = 1; owner != null && k <= owner.pool; k++) {
            if (meta(group + k) != META_OBJECT) {
                return group + k;
            }
        }
        return 0;
    }

    /** The object of the class's pool that is there; for all other numbers null, and the fault is told. */
    private Thing thereInPool(int group, int number) {
        Thing owner = thingAt(group);
        Thing wanted = thingAt(number);
        if (owner != null && wanted != null && wanted.there && number > group && number <= group + owner.pool) {
            return wanted;
        }
        faults.tell(FAULT_NOT_OF_POOL, group, number);
        return null;
    }

    private int createOne(int group, int argument, int within) {
        int number = leastFree(group);
        Thing made = thingAt(number);
        if (made == null) {
            return 0;
        }
        made.there = true;
        takeRowsOfLine(made);
        sendIfProvided(made, number, NAME_AT_CREATION, argument, within);
        return number;
    }

    private int destroyOne(int group, int number, int within) {
        Thing old = thereInPool(group, number);
        if (old == null) {
            return 0;
        }
        sendIfProvided(old, number, NAME_AT_DESTRUCTION, 0, within);
        // What was just sent may itself have destroyed it.
        if (old.there) {
            forest.lift(number);
            forest.liftChildren(number);
            old.there = false;
        }
        return 1;
    }

    private int recreateOne(int group, int number, int within) {
        Thing old = thereInPool(group, number);
        if (old == null) {
            return 0;
        }
        sendIfProvided(old, number, NAME_AT_DESTRUCTION, 0, within);
        if (old.there) {
            takeRowsOfLine(old);
            sendIfProvided(old, number, NAME_AT_CREATION, 0, within);
        }
        return 1;
    }

    private void sendIfProvided(Thing to, int number, int name, int argument, int within) {
        if (to.rows.lengthOf(name) > 0) {
            sendTo(number, name, argument, within);
        }
    }

    // ---- routines

    private int run(int number, int self, int argument, int within) {
        if (within >= MOST_NESTED) {
            return faults.tell(FAULT_NESTED, self, 0);
        }
        Routine routine = routineAt(number);
        int result = 0;
        for (int k = 0; routine != null && k < routine.length && mayAct(self); k++) {
            result = perform(routine, k, result, self, argument, within + 1);
            if (endsBehind(routine.opAt(k), result)) {
                return result;
            }
        }
        return result;
    }

    private boolean mayAct(int self) {
        if (actsDone < ACTS_A_CALL) {
            actsDone++;
            return true;
        }
        if (!actsFaultTold) {
            actsFaultTold = true;
            faults.tell(FAULT_ACTS, self, 0);
        }
        return false;
    }

    private static boolean endsBehind(int op, int result) {
        return (op == OP_END_AT_0 && result == 0) || (op == OP_IS_OF && result != 0);
    }

    /** Does act k: the result that the routine has behind it. */
    private int perform(Routine routine, int k, int result, int self, int argument, int within) {
        int a = routine.firstAt(k);
        int b = routine.secondAt(k);
        switch (routine.opAt(k)) {
            case OP_RESULT: return a;
            case OP_ARGUMENT: return argument;
            case OP_SELF: return self;
            case OP_ADD: return result + a;
            case OP_READ: return read(self, a, b);
            case OP_WRITE:
                write(self, a, b, result);
                return result;
            case OP_SEND: return sendTo(result, a, b, within);
            case OP_SEND_AS: return sendToAs(b, self, a, argument, within);
            case OP_MOVE:
                move(self, result);
                return result;
            case OP_PARENT: return tree(result, WHAT_PARENT);
            case OP_CHILD: return tree(result, WHAT_CHILD);
            case OP_SIBLING: return tree(result, WHAT_SIBLING);
            case OP_NAME:
                name(result, a);
                return result;
            case OP_IS_OF: return isOf(result, a);
            default: return result;
        }
    }

    // ---- names

    private void sayName(Thing thing, int number, int article) {
        if (thing.isClass) {
            output.say("class ");
        }
        if (thing.text == null) {
            output.sayNumber(number);
            return;
        }
        if (!thing.isClass && !thing.proper) {
            output.say(articleOf(thing.text, article));
        }
        output.say(thing.text);
    }

    private static String articleOf(Text text, int article) {
        switch (article) {
            case 1: return "the ";
            case 2: return text.beginsWithVowel() ? "an " : "a ";
            case 3: return "The ";
            default: return "";
        }
    }

    /** A class or an object. */
    private static final class Thing {
        final boolean isClass;
        final Line line;
        final int pool;
        final Rows rows = new Rows();
        boolean there;
        Text text;
        boolean proper;

        Thing(boolean isClass, Line line, int pool) {
            this.isClass = isClass;
            this.line = line;
            this.pool = pool;
        }
    }

    /** The classes that a thing is of, by number, each where it first stands. */
    private static final class Line {
        private final int[] groups = new int[MOST_THINGS];
        int length;

        int at(int k) {
            return k >= 0 && k < length && k < MOST_THINGS ? groups[k] : 0;
        }

        boolean has(int group) {
            for (int k = 0; k < length; k++) {
                if (at(k) == group) {
                    return true;
                }
            }
            return false;
        }

        void add(int group) {
            if (length >= 0 && length < MOST_THINGS && !has(group)) {
                groups[length] = group;
                length++;
            }
        }

        void addAll(Line other) {
            for (int k = 0; k < other.length; k++) {
                add(other.at(k));
            }
        }
    }

    /** For each name up to four values; a row without any is no row. */
    private static final class Rows {
        private final int[] lengths = new int[NAMES];
        private final int[] values = new int[NAMES * MOST_VALUES];

        static boolean isName(int name) {
            return name >= 0 && name < NAMES;
        }

        int lengthOf(int name) {
            return isName(name) ? lengths[name] : 0;
        }

        private boolean has(int name, int i) {
            return isName(name) && i >= 0 && i < lengths[name] && i < MOST_VALUES;
        }

        int at(int name, int i) {
            return has(name, i) ? values[name * MOST_VALUES + i] : 0;
        }

        void put(int name, int i, int v) {
            if (has(name, i)) {
                values[name * MOST_VALUES + i] = v;
            }
        }

        void add(int name, int v) {
            if (isName(name) && lengths[name] < MOST_VALUES) {
                lengths[name]++;
                put(name, lengths[name] - 1, v);
            }
        }

        void clearAll() {
            Arrays.fill(lengths, 0);
        }

        /** Takes what the next class of a line gives to an object that has taken from those ahead of it. */
        void inherit(Rows from) {
            for (int name = 0; name < NAMES; name++) {
                if (name == NAME_ADDED_UP || lengths[name] == 0) {
                    addRow(from, name);
                }
            }
        }

        private void addRow(Rows from, int name) {
            for (int i = 0; i < from.lengthOf(name); i++) {
                add(name, from.at(name, i));
            }
        }
    }

    /** Where each object lies, by number: 0 is nothing. */
    private static final class Tree {
        private final int[] parents = new int[MOST_THINGS + 1];
        private final int[] firstChildren = new int[MOST_THINGS + 1];
        private final int[] siblings = new int[MOST_THINGS + 1];

        private static boolean holds(int v) {
            return v >= 1 && v <= MOST_THINGS;
        }

        int parentOf(int v) {
            return holds(v) ? parents[v] : 0;
        }

        int childOf(int v) {
            return holds(v) ? firstChildren[v] : 0;
        }

        int siblingOf(int v) {
            return holds(v) ? siblings[v] : 0;
        }

        int childrenOf(int v) {
            int many = 0;
            for (int child = childOf(v); child != 0 && many < MOST_THINGS; child = siblingOf(child)) {
                many++;
            }
            return many;
        }

        boolean isInOrAt(int v, int place) {
            int at = v;
            for (int k = 0; at != 0 && k <= MOST_THINGS; k++) {
                if (at == place) {
                    return true;
                }
                at = parentOf(at);
            }
            return false;
        }

        /** Puts what lies in nothing ahead of the children that are there; in nothing there is no order. */
        void put(int v, int parent) {
            if (holds(v) && holds(parent)) {
                parents[v] = parent;
                siblings[v] = firstChildren[parent];
                firstChildren[parent] = v;
            }
        }

        void lift(int v) {
            int parent = parentOf(v);
            if (!holds(v) || !holds(parent)) {
                return;
            }
            if (firstChildren[parent] == v) {
                firstChildren[parent] = siblings[v];
            } else {
                closeGap(firstChildren[parent], v);
            }
            parents[v] = 0;
            siblings[v] = 0;
        }

        private void closeGap(int first, int v) {
            int before = first;
            for (int k = 0; holds(before) && k < MOST_THINGS; k++) {
                if (siblings[before] == v) {
                    siblings[before] = siblingOf(v);
                    return;
                }
                before = siblings[before];
            }
        }

        void liftChildren(int v) {
            for (int k = 0; childOf(v) != 0 && k < MOST_THINGS; k++) {
                lift(childOf(v));
            }
        }
    }

    /** Up to twenty letters: the draft, and then a text. */
    private static final class Text {
        private final byte[] letters = new byte[MOST_LETTERS];
        int length;

        void add(byte letter) {
            if (length >= 0 && length < MOST_LETTERS) {
                letters[length] = letter;
                length++;
            }
        }

        char at(int i) {
            return i >= 0 && i < length && i < MOST_LETTERS ? (char) letters[i] : ' ';
        }

        boolean beginsWithVowel() {
            return length > 0 && "aeiouAEIOU".indexOf(at(0)) >= 0;
        }
    }

    /** Up to eight acts, each with two numbers. */
    private static final class Routine {
        private final int[] ops = new int[MOST_ACTS];
        private final int[] firsts = new int[MOST_ACTS];
        private final int[] seconds = new int[MOST_ACTS];
        int length;

        void add(int op, int a, int b) {
            if (length >= 0 && length < MOST_ACTS) {
                ops[length] = op;
                firsts[length] = a;
                seconds[length] = b;
                length++;
            }
        }

        private boolean has(int k) {
            return k >= 0 && k < length && k < MOST_ACTS;
        }

        int opAt(int k) {
            return has(k) ? ops[k] : NONE;
        }

        int firstAt(int k) {
            return has(k) ? firsts[k] : 0;
        }

        int secondAt(int k) {
            return has(k) ? seconds[k] : 0;
        }
    }

    /** An array of words. */
    private static final class WordArray {
        private final int[] words = new int[MOST_WORDS];
        private final int length;

        WordArray(int length) {
            this.length = length;
        }

        boolean has(int i) {
            return i >= 0 && i < length && i < MOST_WORDS;
        }

        int at(int i) {
            return has(i) ? words[i] : 0;
        }

        void put(int i, int v) {
            if (has(i)) {
                words[i] = v;
            }
        }
    }

    /** What stories say. */
    private static final class Output {
        private final byte[] bytes = new byte[MOST_OUT];
        int length;

        int at(int i) {
            return i >= 0 && i < length && i < MOST_OUT ? bytes[i] : NONE;
        }

        private void add(char c) {
            if (length >= 0 && length < MOST_OUT) {
                bytes[length] = (byte) c;
                length++;
            }
        }

        void say(String words) {
            for (int i = 0; i < words.length(); i++) {
                add(words.charAt(i));
            }
        }

        void say(Text text) {
            for (int i = 0; i < text.length; i++) {
                add(text.at(i));
            }
        }

        /** A thing's number, which has two digits at most, in brackets. */
        void sayNumber(int number) {
            add('(');
            if (number >= 10) {
                add((char) ('0' + number / 10));
            }
            add((char) ('0' + number % 10));
            add(')');
        }
    }

    /** The faults that were told, in strict mode. */
    private static final class FaultList {
        private final int[] kinds = new int[MOST_FAULTS];
        private final int[] numbers = new int[MOST_FAULTS];
        private final int[] seconds = new int[MOST_FAULTS];
        private final boolean strict;
        int length;

        FaultList(boolean strict) {
            this.strict = strict;
        }

        /** Answers 0, which is the answer of what has a fault. */
        int tell(int kind, int number, int second) {
            if (strict && length >= 0 && length < MOST_FAULTS) {
                kinds[length] = kind;
                numbers[length] = number;
                seconds[length] = second;
                length++;
            }
            return 0;
        }

        int at(int i, int what) {
            if (i < 0 || i >= length || i >= MOST_FAULTS) {
                return NONE;
            }
            switch (what) {
                case 0: return kinds[i];
                case 1: return numbers[i];
                case 2: return seconds[i];
                default: return NONE;
            }
        }
    }
}
