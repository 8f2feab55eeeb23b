import java.util.Arrays;
import java.util.NoSuchElementException;

/**
 * A house of templates. load() reads files into a generation, compiled to code of ints; begin()
 * makes the whole text at once, noting at each byte what was told up to it, and run() uncovers it.
 */
public final class TemplateHouse {
    public static final int NONE = -1;

    // A value is an int: NONE is NOTHING, 0 .. 499 a value of the house; the others, which live
    // while a text is made or in a generation, have their sort in the bits from 27 on.
    private static final int SHIFT = 27;
    private static final int REST = (1 << SHIFT) - 1;
    private static final int NO = 1 << SHIFT;
    private static final int YES = NO + 1;
    private static final int COUNT = 2 << SHIFT;
    private static final int STRING = 3 << SHIFT;
    private static final int MADE = 4 << SHIFT;
    private static final int KEY = 5 << SHIFT;
    private static final int ROW = 6 << SHIFT;
    private static final int INSTANCE = 7 << SHIFT;
    private static final int DICTIONARY = 8 << SHIFT;
    private static final int SUB = 9 << SHIFT;
    private static final int ITSELF = 10 << SHIFT;
    private static final int BARE = 11 << SHIFT;
    private static final int CALLED = 12 << SHIFT;
    private static final int UNGIVEN = -2;
    private static final int BREAKS = -2;

    // The sorts of values of the house.
    private static final int TRUTH = 0;
    private static final int NUMBER = 1;
    private static final int WORD = 2;
    private static final int LIST = 3;
    private static final int MAP = 4;
    private static final int BEAN = 5;

    // The kinds of definitions.
    private static final int TEMPLATE = 0;
    private static final int ALIAS = 1;
    private static final int DICT = 2;
    private static final int REGION = 3;

    // The code of a text, each with what stands behind it.
    private static final int END = 0;
    private static final int LIT = 1;          // from, length
    private static final int LINE = 2;         // place, whether a tag stood on it
    private static final int RAW = 3;          // place, from, length
    private static final int TAG = 4;          // place, where its options are (0: none)
    private static final int WRITE = 5;        // indent from, its length, what follows (0: no options)
    private static final int JUMP = 6;         // to
    private static final int UNLESS = 7;       // to
    private static final int ENTER = 8;
    private static final int LEAVE = 9;
    private static final int PART = 10;        // place, indent from, its length, what follows, text
    private static final int PUSH = 11;        // value
    private static final int NAME = 12;        // name, place
    private static final int BLOCK = 13;       // what follows; then the SUB
    private static final int ITEMS = 14;       // how many
    private static final int CALL = 15;        // text, name, place, args, flags, last NAMED
    private static final int CALLBY = 16;      // place, args, flags, last NAMED
    private static final int NAMED = 17;       // name, place, the NAMED ahead of it
    private static final int FIND = 18;        // place, where to go without
    private static final int DOT = 19;         // name, place
    private static final int DOTBY = 20;       // place
    private static final int FUNCTION = 21;    // which
    private static final int SPELL = 22;
    private static final int SPELLIF = 23;     // error, place, where to go with NOTHING
    private static final int STRLEN = 24;
    private static final int TRIM = 25;
    private static final int TEST = 26;
    private static final int NOT = 27;
    private static final int IFSO = 28;        // to
    private static final int IFNOT = 29;       // to
    private static final int APPLY = 30;       // how many APPLIED, what follows
    private static final int SLOT = 31;        // which APPLIED, place
    private static final int NEXT = 32;        // how many APPLIED, what follows; where each is
    private static final int EACHSUB = 33;     // then the SUB
    private static final int EACHCALL = 34;    // as CALL
    private static final int EACHBY = 35;      // as CALLBY, which APPLIED
    private static final int ZIP = 36;         // how many MEMBERs, what follows; then the SUB
    private static final int OPTION = 37;      // which
    private static final int FORMAT = 38;      // place

    // Flags of a call.
    private static final int BYNAME = 1;
    private static final int DOTS = 2;
    private static final int SUPER = 4;
    private static final int APPLIED = 8;

    // The words that are no NAMEs in a TAG, and their numbers.
    private static final String TAGWORDS =
        "first last rest trunc strip reverse length strlen trim if elseif else endif super true false ";
    private static final int W_LENGTH = 6;
    private static final int W_STRLEN = 7;
    private static final int W_TRIM = 8;
    private static final int W_IF = 9;
    private static final int W_ELSEIF = 10;
    private static final int W_ELSE = 11;
    private static final int W_ENDIF = 12;
    private static final int W_SUPER = 13;
    private static final int W_TRUE = 14;
    private static final int W_FALSE = 15;
    private static final String FILEWORDS = "delimiters import default key true false ";
    private static final String OPTIONWORDS = "separator null format wrap anchor ";
    private static final String FORMATWORDS = "upper lower cap xml url ";
    private static final String NODELIMITER = "\"'(){}[],.:;=|!&@\\_";

    // Bounds of the document.
    private static final int FILESIZE = 4000;
    private static final int PARTS = 20;
    private static final int PARAMS = 12;
    private static final int DEFINITIONS = 40;
    private static final int NAMELENGTH = 16;

    private final byte[] ready = new byte[20];
    private final byte[] tape = new byte[FILESIZE];
    private int taped = 0;
    private final byte[][] files;
    private final int[] sizes;
    private final Store store;
    private final Source source;
    private Gen now;
    private Gen spare;
    private final FileReader reader;
    private final Checker checker;
    private final Maker maker;
    private int generations = 0;
    private int faultNumber = 0;
    private int faultFile = NONE;
    private int faultPlace = NONE;
    private int wide = 0;
    private int state = 0;
    private int shown = 0;

    public TemplateHouse() {
        byte[][] allFiles = new byte[8][FILESIZE];
        int[] allSizes = new int[8];
        Store values = new Store();
        Source read = new Source();
        Gen first = new Gen();
        Gen second = new Gen();
        files = allFiles;
        sizes = allSizes;
        store = values;
        source = read;
        now = first;
        spare = second;
        reader = new FileReader(allFiles, allSizes, read, second);
        checker = new Checker(read, second);
        maker = new Maker(values, first);
    }

    public void feed(int a, int b, int c, int d, int e) {
        fourReady(0, a);
        fourReady(4, b);
        fourReady(8, c);
        fourReady(12, d);
        fourReady(16, e);
    }

    private void fourReady(int at, int four) {
        for (int i = 0; i < 4; i++) {
            setByte(ready, at + i, four >>> (24 - 8 * i));
        }
    }

    public int end(int n) {
        if (n < 0 || n > 20 || taped + n > FILESIZE) {
            return NONE;
        }
        for (int i = 0; i < n; i++) {
            setByte(tape, taped + i, getByte(ready, i));
        }
        taped += n;
        Arrays.fill(ready, (byte) 0);
        return taped;
    }

    public boolean file(int k) {
        int n = taped;
        taped = 0;
        if (k < 0 || k >= 8) {
            return false;
        }
        for (int i = 0; i < n; i++) {
            int b = getByte(tape, i);
            if (b != 9 && b != 10 && (b < 32 || b > 126)) {
                return false;
            }
        }
        byte[] to = files[k];
        for (int i = 0; i < n; i++) {
            setByte(to, i, getByte(tape, i));
        }
        sizes[k] = n;
        return true;
    }

    public int load(int k) throws IllegalArgumentException {
        faultNumber = 0;
        faultFile = NONE;
        faultPlace = NONE;
        if (k < 0 || k >= 8 || !isRead(k)) {
            throw new IllegalArgumentException();
        }
        Gen old = now;
        now = spare;
        spare = old;
        generations++;
        return now.templates;
    }

    private boolean isRead(int k) {
        try {
            reader.openAll(spare, k);
            for (int i = 0; i < 1000000 && reader.isMore(); i++) {
                reader.definition();
                reader.params();
                reader.entries();
                reader.body();
            }
            checker.checkAll(spare);
            return true;
        } catch (IllegalStateException fault) {
            faultNumber = source.number;
            faultFile = source.file;
            faultPlace = source.where;
            return false;
        }
    }

    public int fault(int what) {
        if (what == 0) {
            return faultNumber;
        }
        return what == 1 ? faultFile : what == 2 ? faultPlace : NONE;
    }

    public int truth(boolean v) {
        return state == 1 ? NONE : store.make(TRUTH, v ? 1 : 0, 0);
    }

    public int number(long v) {
        return state == 1 ? NONE : store.make(NUMBER, v, 0);
    }

    public int word() {
        return fromTape(WORD);
    }

    public int list() {
        return state == 1 ? NONE : store.make(LIST, 0, 0);
    }

    public int map() {
        return state == 1 ? NONE : store.make(MAP, 0, 0);
    }

    public int bean() {
        return fromTape(BEAN);
    }

    private int fromTape(int sort) {
        int n = taped;
        taped = 0;
        if (state == 1) {
            return NONE;
        }
        int v = store.make(sort, 0, n);
        if (v != NONE) {
            store.takeBytes(tape, n);
        }
        return v;
    }

    public boolean add(int list, int value) {
        return state != 1 && store.append(list, value);
    }

    public boolean entry(int map, int value) {
        int n = taped;
        taped = 0;
        return state != 1 && store.setKey(map, value, tape, n);
    }

    public boolean property(int bean, int sort, int value) {
        int n = taped;
        taped = 0;
        if (state == 1 || sort < 0 || sort > 3) {
            return false;
        }
        return store.addProperty(bean, sort, value, tape, n);
    }

    public int attribute(int value) {
        int n = taped;
        taped = 0;
        return state == 1 ? NONE : store.addAttribute(tape, n, value);
    }

    public boolean clear() {
        if (state == 1) {
            return false;
        }
        store.addedCount = 0;
        return true;
    }

    public boolean width(int n) {
        if (n < 0 || n > 1000) {
            return false;
        }
        wide = n;
        return true;
    }

    public void begin() throws IllegalStateException, NoSuchElementException {
        int n = taped;
        taped = 0;
        if (generations == 0 || state == 1) {
            throw new IllegalStateException();
        }
        int text = now.templateOf(tape, 0, n);
        if (text == NONE) {
            throw new NoSuchElementException();
        }
        maker.makeAll(now, text, wide);
        state = 1;
        shown = 0;
    }

    public int run(int n) throws IllegalArgumentException, IllegalStateException {
        if (n < 1 || n > 12000) {
            throw new IllegalArgumentException();
        }
        if (state != 1) {
            throw new IllegalStateException();
        }
        int all = maker.writer.length;
        if (all - shown >= n) {
            shown += n;
            return 0;
        }
        shown = all;
        state = maker.ended ? 3 : 2;
        return state - 1;
    }

    public boolean stop() {
        if (state != 1) {
            return false;
        }
        state = 4;
        return true;
    }

    public int byteOf(int i) {
        return state == 0 || i < 0 || i >= shown ? NONE : getByte(maker.writer.text, i);
    }

    public int error(int i, int what) {
        if (i < 0 || i >= 400 || what < 0 || what > 2 || i >= told(0)) {
            return NONE;
        }
        return get(maker.teller.errors, 3 * i + what);
    }

    public int looked(int i, int what) {
        if (i < 0 || i >= 1000 || what < 0 || what > 1 || i >= told(1)) {
            return -2;
        }
        return get(maker.teller.looks, 2 * i + what);
    }

    public int look(int what) {
        switch (what) {
            case 0: return generations;
            case 1: return store.count;
            case 2: return store.addedCount;
            case 3: return shown;
            case 4: return told(0);
            case 5: return told(1);
            case 6: return told(2);
            case 7: return state;
            case 8: return store.used;
            default: return NONE;
        }
    }

    /** How many ERRORS (0), LOOKS (1), INSTANCES (2) there were up to where the text is. */
    private int told(int what) {
        if (state == 0) {
            return 0;
        }
        if (state == 2 || state == 3) {
            return get(maker.teller.counts, what);
        }
        if (shown == 0) {
            return what == 2 ? maker.atFirst : 0;
        }
        return get(maker.writer.noted, 3 * (shown - 1) + what);
    }

    // ---- Arrays, looked at before they are used.

    private static int get(int[] a, int i) {
        return i >= 0 && i < a.length ? a[i] : 0;
    }

    private static void set(int[] a, int i, int v) {
        if (i >= 0 && i < a.length) {
            a[i] = v;
        }
    }

    private static int getByte(byte[] a, int i) {
        return i >= 0 && i < a.length ? a[i] & 255 : 0;
    }

    private static void setByte(byte[] a, int i, int v) {
        if (i >= 0 && i < a.length) {
            a[i] = (byte) v;
        }
    }

    private static boolean same(byte[] a, int i, byte[] b, int j, int n) {
        if (i < 0 || j < 0 || n < 0 || i > a.length - n || j > b.length - n) {
            return false;
        }
        for (int x = 0; x < n; x++) {
            if (a[i + x] != b[j + x]) {
                return false;
            }
        }
        return true;
    }

    private static boolean isText(byte[] a, int from, int n, String s) {
        if (n != s.length() || from < 0 || from > a.length - n) {
            return false;
        }
        for (int x = 0; x < n; x++) {
            if (a[from + x] != s.charAt(x)) {
                return false;
            }
        }
        return true;
    }

    /** Which of the words, each with a blank behind it, these bytes are, from 0; NONE for none. */
    private static int wordIn(String words, byte[] a, int from, int n) {
        if (from < 0 || n < 1 || from > a.length - n) {
            return NONE;
        }
        int which = 0;
        int same = 0;
        for (int i = 0; i < words.length(); i++) {
            char c = words.charAt(i);
            if (c == ' ') {
                if (same == n) {
                    return which;
                }
                which++;
                same = 0;
            } else if (same >= 0) {
                same = same < n && a[from + same] == c ? same + 1 : -1;
            }
        }
        return NONE;
    }

    private static boolean isLetter(int c) {
        return c >= 'a' && c <= 'z' || c >= 'A' && c <= 'Z' || c == '_';
    }

    private static boolean isRow(int c) {
        return c >= 'a' && c <= 'z' || c >= 'A' && c <= 'Z' || c == '_' || c >= '0' && c <= '9';
    }

    // ---- What a text is made of.

    /** The values of the house, each with a hundred cells. */
    private static final class Store {
        static final int CELLS = 100;
        final int[] sort = new int[500];
        final long[] much = new long[500];
        final int[] from = new int[500];
        final int[] length = new int[500];
        final int[] size = new int[500];
        final int[] cells = new int[500 * CELLS];
        final byte[] bytes = new byte[16000];
        int count = 0;
        int used = 0;
        int listed = 0;
        // The attributes that were added: sixteen bytes for the name of each.
        final byte[] addedNames = new byte[40 * NAMELENGTH];
        final int[] addedLengths = new int[40];
        final int[] addedValues = new int[40];
        int addedCount = 0;

        int addAttribute(byte[] name, int n, int value) {
            if (value < NONE || value >= count) {
                return NONE;
            }
            if (n < 1 || n > NAMELENGTH || addedCount >= 40) {
                return NONE;
            }
            for (int i = 0; i < n; i++) {
                setByte(addedNames, addedCount * NAMELENGTH + i, getByte(name, i));
            }
            set(addedLengths, addedCount, n);
            set(addedValues, addedCount, value);
            addedCount++;
            return addedCount;
        }

        boolean sameName(int i, int j) {
            int n = get(addedLengths, i);
            return n == get(addedLengths, j)
                && same(addedNames, i * NAMELENGTH, addedNames, j * NAMELENGTH, n);
        }

        /** Whether one that was added ahead of this one has its name. */
        boolean isLater(int i) {
            for (int j = 0; j < i; j++) {
                if (sameName(i, j)) {
                    return true;
                }
            }
            return false;
        }

        /** A value, for whose n bytes takeBytes comes behind it. */
        int make(int s, long m, int n) {
            if (count >= 500 || used + n > 16000) {
                return NONE;
            }
            set(sort, count, s);
            if (count < much.length) {
                much[count] = m;
            }
            set(from, count, used);
            set(length, count, n);
            set(size, count, 0);
            count++;
            return count - 1;
        }

        void takeBytes(byte[] b, int n) {
            for (int i = 0; i < n; i++) {
                setByte(bytes, used + i, getByte(b, i));
            }
            used += n;
        }

        boolean is(int v, int s) {
            return v >= 0 && v < count && get(sort, v) == s;
        }

        /** Whether a LIST or MAP may have this value. */
        boolean mayHave(int v, int value) {
            if (value < NONE || value >= count) {
                return false;
            }
            return value < v || is(value, BEAN);
        }

        boolean append(int v, int value) {
            int n = get(size, v);
            if (!is(v, LIST) || !mayHave(v, value) || n >= 100 || listed >= 4000) {
                return false;
            }
            set(cells, v * CELLS + n, value);
            set(size, v, n + 1);
            listed++;
            return true;
        }

        boolean setKey(int v, int value, byte[] name, int n) {
            if (!is(v, MAP) || !mayHave(v, value) || n < 1 || n > 20) {
                return false;
            }
            int i = keyOf(v, name, 0, n);
            if (i == NONE) {
                i = get(size, v);
                if (i >= 50 || used + n > 16000) {
                    return false;
                }
                set(cells, v * CELLS + 50 + i, used << 5 | n);
                takeBytes(name, n);
                set(size, v, i + 1);
            }
            set(cells, v * CELLS + i, value);
            return true;
        }

        /** Which KEY of a MAP these bytes are. */
        int keyOf(int v, byte[] name, int at, int n) {
            for (int i = 0; i < get(size, v); i++) {
                int key = get(cells, v * CELLS + 50 + i);
                if ((key & 31) == n && same(bytes, key >>> 5, name, at, n)) {
                    return i;
                }
            }
            return NONE;
        }

        boolean addProperty(int v, int s, int value, byte[] name, int n) {
            if (!is(v, BEAN) || value < BREAKS || value >= count || n < 1 || n > 16) {
                return false;
            }
            int i = get(size, v);
            if (i >= 12 || used + n > 16000 || propertyOf(v, s, name, 0, n) != NONE) {
                return false;
            }
            set(cells, v * CELLS + 3 * i, used << 5 | n);
            set(cells, v * CELLS + 3 * i + 1, s);
            set(cells, v * CELLS + 3 * i + 2, value);
            takeBytes(name, n);
            set(size, v, i + 1);
            return true;
        }

        /** Which PROPERTY of a BEAN is of this sort and has these bytes as its name. */
        int propertyOf(int v, int s, byte[] name, int at, int n) {
            for (int i = 0; i < get(size, v); i++) {
                int key = get(cells, v * CELLS + 3 * i);
                if (get(cells, v * CELLS + 3 * i + 1) == s && (key & 31) == n
                    && same(bytes, key >>> 5, name, at, n)) {
                    return i;
                }
            }
            return NONE;
        }
    }

    /** The names of a generation; the first two are i and i0. */
    private static final class Names {
        private static final byte[] TURN = {'i', '0'};
        final byte[] bytes = new byte[32100];
        final int[] from = new int[16102];
        final int[] next = new int[16102];
        final int[] head = new int[8192];
        int count = 0;
        int used = 0;

        void forget() {
            Arrays.fill(head, NONE);
            count = 0;
            used = 0;
            intern(TURN, 0, 1);
            intern(TURN, 0, 2);
        }

        int lengthOf(int name) {
            return name < 0 || name >= count || name + 1 >= from.length ? 0
                : from[name + 1] - from[name];
        }

        int find(byte[] src, int at, int n) {
            int name = get(head, hash(src, at, n));
            for (int i = 0; i < count && name >= 0; i++) {
                if (lengthOf(name) == n && same(bytes, get(from, name), src, at, n)) {
                    return name;
                }
                name = get(next, name);
            }
            return NONE;
        }

        private static int hash(byte[] src, int at, int n) {
            int h = n;
            for (int i = at; i < at + n && i >= 0 && i < src.length; i++) {
                h = h * 31 + src[i];
            }
            return (h ^ h >>> 13) & 8191;
        }

        int intern(byte[] src, int at, int n) {
            int name = find(src, at, n);
            if (name >= 0 || count > 16100 || used + n > bytes.length) {
                return name;
            }
            for (int i = 0; i < n; i++) {
                setByte(bytes, used + i, getByte(src, at + i));
            }
            int h = hash(src, at, n);
            set(from, count, used);
            used += n;
            set(from, count + 1, used);
            set(next, count, get(head, h));
            set(head, h, count);
            count++;
            return count - 1;
        }
    }

    /** Which files were read, what each imports, and the way through what each has. */
    private static final class Imports {
        final int[] direct = new int[64];
        final int[] directs = new int[8];
        final int[] ways = new int[64];
        final int[] wayLengths = new int[8];
        final int[] read = new int[8];
        int reads = 0;

        void forget() {
            Arrays.fill(directs, 0);
            Arrays.fill(wayLengths, 0);
            reads = 0;
        }

        boolean wasRead(int f) {
            for (int i = 0; i < reads; i++) {
                if (get(read, i) == f) {
                    return true;
                }
            }
            return false;
        }

        void noteRead(int f) {
            if (reads < 8) {
                set(read, reads, f);
                reads++;
            }
        }

        void note(int f, int imported) {
            int n = get(directs, f);
            for (int i = 0; i < n; i++) {
                if (get(direct, 8 * f + i) == imported) {
                    return;
                }
            }
            if (n < 8) {
                set(direct, 8 * f + n, imported);
                set(directs, f, n + 1);
            }
        }

        int way(int f, int i) {
            return get(ways, 8 * f + i);
        }

        int wayLength(int f) {
            return get(wayLengths, f);
        }

        /** The way of each file: itself, then the ways of what it imports, each file once. */
        void layWays() {
            for (int i = 0; i < reads; i++) {
                int f = get(read, i);
                extend(ways, wayLengths, f, f, 0);
            }
        }

        private void extend(int[] way, int[] lengths, int f, int g, int depth) {
            int n = get(lengths, f);
            for (int i = 0; i < n; i++) {
                if (get(way, 8 * f + i) == g) {
                    return;
                }
            }
            if (depth > 8 || n >= 8) {
                return;
            }
            set(way, 8 * f + n, g);
            set(lengths, f, n + 1);
            for (int i = 0; i < get(directs, g); i++) {
                extend(way, lengths, f, get(direct, 8 * g + i), depth + 1);
            }
        }
    }

    /** A generation: its code, with what the checks need of it. A text's code begins with its
     * file, its name, how many PARAMs it has, and the name and DEFAULT of each. */
    private static final class Gen {
        static final int DEFSIZE = 7;  // kind, file, name, place, text or target, 2nd name, its place
        static final int PARTSIZE = 6; // file, template, region, code, whether super, place
        final Names names = new Names();
        final Imports imports = new Imports();
        final int[] code = new int[192000];
        int codeEnd = 1;
        final byte[] pool = new byte[32400];
        final int[] places = new int[32400];
        int poolEnd = 0;
        final int[] defs = new int[320 * DEFSIZE];
        int defCount = 0;
        final int[] parts = new int[5400 * PARTSIZE];
        int partCount = 0;
        final int[] calls = new int[2 * 10800];
        int callCount = 0;
        final int[] late = new int[8];
        final int[] template = new int[16102];
        final int[] dictionary = new int[16102];
        int templates = 0;

        void forget() {
            names.forget();
            imports.forget();
            codeEnd = 1;
            poolEnd = 0;
            defCount = 0;
            partCount = 0;
            callCount = 0;
            Arrays.fill(late, NONE);
            keep('\n', 0);
        }

        void emit(int a) {
            if (codeEnd >= 0 && codeEnd < code.length) {
                code[codeEnd] = a;
                codeEnd++;
            }
        }

        void emit(int a, int b) {
            emit(a);
            emit(b);
        }

        void emit(int a, int b, int c) {
            emit(a);
            emit(b);
            emit(c);
        }

        void emit(int a, int b, int c, int d) {
            emit(a);
            emit(b);
            emit(c);
            emit(d);
        }

        /** The code at this place goes on here. */
        void patch(int at) {
            if (at >= 0 && at < code.length) {
                code[at] = codeEnd;
            }
        }

        void keep(int b, int place) {
            if (poolEnd >= 0 && poolEnd < pool.length && poolEnd < places.length) {
                pool[poolEnd] = (byte) b;
                places[poolEnd] = place;
                poolEnd++;
            }
        }

        int stringFrom(int from) {
            return STRING | from << 12 | poolEnd - from;
        }

        boolean sameString(int a, int b) {
            int n = a & 4095;
            return n == (b & 4095)
                && same(pool, (a & REST) >>> 12, pool, (b & REST) >>> 12, n);
        }

        int newDef(int kind, int file, int name, int place) {
            int at = defCount * DEFSIZE;
            set(defs, at, kind);
            set(defs, at + 1, file);
            set(defs, at + 2, name);
            set(defs, at + 3, place);
            defCount++;
            return at;
        }

        void addPart(int file, int owner, int name, int isSuper, int place) {
            int at = partCount * PARTSIZE;
            set(parts, at, file);
            set(parts, at + 1, owner);
            set(parts, at + 2, name);
            set(parts, at + 3, codeEnd);
            set(parts, at + 4, isSuper);
            set(parts, at + 5, place);
            if (at < parts.length) {
                partCount++;
            }
        }

        void addCall(int file) {
            set(calls, 2 * callCount, codeEnd);
            set(calls, 2 * callCount + 1, file);
            if (2 * callCount < calls.length) {
                callCount++;
            }
        }

        void addLate(int file, int place) {
            int before = get(late, file);
            if (before == NONE || place < before) {
                set(late, file, place);
            }
        }

        /** Which PARAM of this text has this name. */
        int paramOf(int text, int name) {
            int n = text < 0 || text + 2 >= code.length ? 0 : code[text + 2];
            for (int i = 0; i < n && text + 3 + 2 * i < code.length; i++) {
                if (code[text + 3 + 2 * i] == name) {
                    return i;
                }
            }
            return NONE;
        }

        /** The text of the template that file k has of the name that these bytes are. */
        int templateOf(byte[] b, int from, int n) {
            int name = n < 1 || n > NAMELENGTH ? NONE : names.find(b, from, n);
            return name == NONE ? NONE : textOf(get(template, name));
        }

        /** The text of a TEMPLATE, or of what an ALIAS leads to. */
        int textOf(int def) {
            int at = def;
            for (int i = 0; i <= 320 && at >= 0; i++) {
                if (get(defs, at) == TEMPLATE) {
                    return get(defs, at + 4);
                }
                at = get(template, get(defs, at + 4));
            }
            return NONE;
        }
    }

    // ---- Reading.

    /** The bytes that are read, where each stands in its file, and the FAULT. */
    private static final class Source {
        private byte[] src = new byte[0];
        private boolean isFile = true;
        private final byte[] packed = new byte[FILESIZE + 1];
        private final int[] places = new int[FILESIZE + 2];
        int lim = 0;
        int pos = 0;
        int file = 0;
        int number = 0;
        int where = 0;
        private byte[] whole = new byte[0];
        private int wholeLim = 0;
        private int after = 0;

        void openFile(int f, byte[] b, int n) {
            file = f;
            src = b;
            whole = b;
            wholeLim = n;
            lim = n;
            pos = 0;
            isFile = true;
        }

        /** Turns to the TEXT of a BODY, from .. to in the file, without the NEWLINES and what
         * follows them if so; behind it the file goes on at next. */
        void openBody(int from, int to, boolean isPacked, int ender, int next) {
            int n = 0;
            for (int i = from; i < to && n < FILESIZE; i++) {
                int b = getByte(whole, i);
                if (isPacked && b == '\n') {
                    while (i + 1 < to && isSpace(getByte(whole, i + 1))) {
                        i++;
                    }
                } else {
                    setByte(packed, n, b);
                    set(places, n, i);
                    n++;
                }
            }
            set(places, n, ender);
            src = packed;
            lim = n;
            pos = 0;
            isFile = false;
            after = next;
        }

        void closeBody() {
            src = whole;
            lim = wholeLim;
            pos = after;
            isFile = true;
        }

        static boolean isSpace(int c) {
            return c == ' ' || c == '\t';
        }

        int at(int p) {
            return p >= 0 && p < lim && p < src.length ? src[p] : -1;
        }

        int peek() {
            return pos >= 0 && pos < lim && pos < src.length ? src[pos] : -1;
        }

        int placeOf(int p) {
            return isFile ? p : p >= 0 && p < places.length ? places[p] : 0;
        }

        int here() {
            return isFile ? pos : pos >= 0 && pos < places.length ? places[pos] : 0;
        }

        void fail(int n, int place) {
            number = n;
            where = place;
            throw new IllegalStateException();
        }

        void blanks() {
            while (pos >= 0 && pos < lim && pos < src.length
                && (src[pos] == ' ' || src[pos] == '\t' || src[pos] == '\n')) {
                pos++;
            }
        }

        /** Behind the BLANKS from here on. */
        int blanksEnd(int from) {
            int p = from;
            while (p >= 0 && p < lim && p < src.length
                && (src[p] == ' ' || src[p] == '\t' || src[p] == '\n')) {
                p++;
            }
            return p;
        }

        /** Behind the row of letters, _ and digits from here on. */
        int rowEnd(int from) {
            int p = from;
            boolean isIn = true;
            while (isIn && p >= 0 && p < lim && p < src.length) {
                int c = src[p];
                isIn = c >= 'a' && c <= 'z' || c >= 'A' && c <= 'Z' || c == '_'
                    || c >= '0' && c <= '9';
                p += isIn ? 1 : 0;
            }
            return p;
        }

        boolean isName(int to, Names names, int name) {
            int n = names.lengthOf(name);
            return to - pos == n && same(src, pos, names.bytes, get(names.from, name), n);
        }

        boolean isHere(int to, String s) {
            return isText(src, pos, to - pos, s);
        }

        int wordHere(int to, String words) {
            return wordIn(words, src, pos, to - pos);
        }

        /** The sign that has to stand here, behind BLANKS. */
        void need(int c) {
            blanks();
            if (pos < 0 || pos >= lim || pos >= src.length || src[pos] != c) {
                fail(1, here());
            }
            pos++;
        }

        /** Behind a NAME at hand, which is none of these words. */
        int nameEnd(String words) {
            int to = rowEnd(pos);
            if (!isLetter(peek()) || wordIn(words, src, pos, to - pos) != NONE) {
                fail(1, here());
            }
            if (to - pos > NAMELENGTH) {
                fail(2, here());
            }
            return to;
        }

        /** Takes the NAME from here to there. */
        int take(int to, Names names) {
            int from = pos;
            pos = to;
            return names.intern(src, from, to - from);
        }

        /** Where the STRING at hand ends: at the byte ahead of its own end. */
        int stringEnd() {
            int quote = peek();
            int p = pos + 1;
            while (p < lim && at(p) != quote) {
                if (at(p) == '\n') {
                    fail(1, placeOf(p));
                }
                p++;
            }
            if (p >= lim) {
                fail(1, placeOf(lim));
            }
            return p;
        }

        /** The STRING at hand, which ends there, as a value. */
        int string(Gen g, int to) {
            int from = g.poolEnd;
            for (int p = pos + 1; p < to; p++) {
                int c = at(p);
                if (c == '\\' && p + 1 < to) {
                    p++;
                    c = at(p) == 'n' ? '\n' : at(p) == 't' ? '\t' : at(p);
                }
                g.keep(c, 0);
            }
            pos = to + 1;
            return g.stringFrom(from);
        }

        /** Behind BLANKS and COMMENTS from p on; NONE if a COMMENT lacks its end. */
        int past(int from) {
            int p = from;
            for (int i = 0; i <= FILESIZE && p >= 0 && p < lim && p < src.length; i++) {
                int c = src[p];
                int d = p + 1 < lim && p + 1 < src.length ? src[p + 1] : -1;
                if (c == '/' && d == '/') {
                    while (p < lim && p < src.length && src[p] != '\n') {
                        p++;
                    }
                } else if (c == '/' && d == '*') {
                    p += 2;
                    while (p + 1 < lim && p + 1 < src.length
                        && (src[p] != '*' || src[p + 1] != '/')) {
                        p++;
                    }
                    if (p + 1 >= lim) {
                        return NONE;
                    }
                    p += 2;
                } else if (c == '\n' || c == ' ' || c == '\t') {
                    p++;
                } else {
                    return p;
                }
            }
            return lim;
        }

        void skip() {
            int p = past(pos);
            if (p == NONE) {
                fail(1, lim);
            }
            pos = p;
        }

        /** A sign of one byte outside of TEXTS, behind BLANKS and COMMENTS; the : that ::= begins
         * with is none. */
        void sign(int c) {
            skip();
            if (peek() != c || isBecomes()) {
                fail(1, pos);
            }
            pos++;
        }

        /** The sign ::= , likewise. */
        void becomes() {
            skip();
            if (!isBecomes()) {
                fail(1, pos);
            }
            pos += 3;
        }

        private boolean isBecomes() {
            return at(pos) == ':' && at(pos + 1) == ':' && at(pos + 2) == '=';
        }
    }

    /** Reads TEXTS, and makes code of them. */
    private static final class TextReader {
        private static final int NOTHING_SPECIAL = 0;
        private static final int STOOD = 1;
        private static final int REGION_END = 20;
        // What a TEXT stands in: itself, a branch, the branch of else, a region.
        private static final int ALONE = 0;
        private static final int BRANCH = 1;
        private static final int LAST_BRANCH = 2;
        private static final int IN_REGION = 3;

        private final Source s;
        private Gen g;
        int open = '<';
        int close = '>';
        // The definition at hand: what regions may stand in it, its template, its region.
        private int kind = DICT;
        private int owner = NONE;
        private int filled = NONE;
        private int firstPart = 0;
        private boolean inSub = false;
        // The bytes that wait for their code; whether only 32 and 9 stood on this line.
        private int runFrom = 0;
        private int runLength = 0;
        private boolean lineStart = true;
        // What args() read, and what the end of a branch left.
        private int argCount = 0;
        private int argFlags = 0;
        private int argNamed = 0;
        private boolean endAlone = false;
        private int endPatch = NONE;

        TextReader(Source source, Gen gen) {
            s = source;
            g = gen;
        }

        /** A new file, for this generation. */
        void openFile(Gen gen) {
            g = gen;
            open = '<';
            close = '>';
        }

        /** A definition of this kind: of a template, perhaps of a region. */
        void define(int aKind, int template, int region) {
            kind = aKind;
            owner = template;
            filled = region;
            firstPart = g.partCount;
        }

        /** A SUB outside of BODYs follows. */
        void startConstant() {
            define(DICT, NONE, NONE);
            inSub = false;
        }

        /** The TEXT of a BODY follows. */
        void startText() {
            inSub = false;
            lineStart = true;
        }

        private int text(int depth, int within) {
            boolean stood = false;
            runLength = 0;
            for (int i = 0; i <= FILESIZE && s.pos < s.lim; i++) {
                int c = s.peek();
                if (inSub && c == '}') {
                    break;
                }
                if (c == '\n') {
                    flush();
                    g.emit(LINE, s.here(), stood ? 1 : 0);
                    stood = false;
                    lineStart = true;
                    s.pos++;
                } else if (c == open) {
                    int r = tag(depth, within);
                    if (r > STOOD) {
                        return r;
                    }
                    stood = stood || r == STOOD;
                } else {
                    literal(c);
                }
            }
            flush();
            if (within != ALONE) {
                s.fail(1, s.here());
            }
            return NOTHING_SPECIAL;
        }

        private void literal(int first) {
            int c = first;
            int place = s.here();
            if (c == '\\') {
                int n = s.at(s.pos + 1);
                if (n == open || n == '\\' || n == '}') {
                    c = n;
                    s.pos++;
                }
            }
            s.pos++;
            if (runLength == 0) {
                runFrom = g.poolEnd;
            }
            g.keep(c, place);
            runLength++;
            lineStart = lineStart && (c == ' ' || c == '\t');
        }

        /** Code for the bytes that wait: where their length is, NONE without any. */
        private int flush() {
            if (runLength == 0) {
                return NONE;
            }
            g.emit(LIT, runFrom, runLength);
            runLength = 0;
            return g.codeEnd - 1;
        }

        private int tag(int depth, int within) {
            int openAt = s.here();
            s.pos++;
            if (s.peek() == '!' || s.peek() == '\\') {
                plainTag(openAt);
                return NOTHING_SPECIAL;
            }
            s.blanks();
            if (s.peek() == '@') {
                return region(depth, within, openAt);
            }
            int w = s.wordHere(s.rowEnd(s.pos), TAGWORDS);
            if (w == W_IF) {
                choice(depth, openAt);
                return STOOD;
            }
            if (w == W_ELSEIF || w == W_ELSE || w == W_ENDIF) {
                return branchEnd(w, within);
            }
            expression(depth, openAt);
            return STOOD;
        }

        /** A comment, or bytes. */
        private void plainTag(int openAt) {
            boolean alone = lineStart;
            int patch = flush();
            if (s.peek() == '!') {
                comment();
                restOfLine(alone, patch);
                return;
            }
            lineStart = false;
            if (s.at(s.pos + 1) == '\\') {
                joinLines();
            } else {
                escape(openAt);
            }
        }

        private void comment() {
            int p = s.pos + 1;
            while (p < s.lim && (s.at(p) != '!' || s.at(p + 1) != close)) {
                p++;
            }
            if (p >= s.lim) {
                s.fail(1, s.placeOf(s.lim));
            }
            s.pos = p + 2;
        }

        /** Behind a TAG that may have a line for itself alone. */
        private void restOfLine(boolean alone, int patch) {
            int p = s.pos;
            while (p < s.lim && (s.at(p) == ' ' || s.at(p) == '\t')) {
                p++;
            }
            boolean isLine = s.at(p) == '\n';
            boolean isOver = p >= s.lim || inSub && s.at(p) == '}';
            lineStart = alone && isLine;
            if (alone && (isLine || isOver)) {
                if (patch != NONE) {
                    set(g.code, patch, 0);
                }
                s.pos = isLine ? p + 1 : p;
            }
        }

        private void escape(int openAt) {
            int from = g.poolEnd;
            for (int i = 0; i < FILESIZE && s.peek() == '\\'; i++) {
                s.pos++;
                int c = s.peek();
                if (c != 'n' && c != 't' && c != ' ') {
                    s.fail(1, s.here());
                }
                g.keep(c == 'n' ? '\n' : c == 't' ? '\t' : ' ', openAt);
                s.pos++;
            }
            if (s.peek() != close) {
                s.fail(1, s.here());
            }
            s.pos++;
            g.emit(RAW, openAt, from, g.poolEnd - from);
        }

        /** A TAG behind which the NEWLINE is not there. */
        private void joinLines() {
            s.pos += 2;
            if (s.peek() != close) {
                s.fail(1, s.here());
            }
            s.pos++;
            while (s.pos < s.lim && (s.peek() == ' ' || s.peek() == '\t')) {
                s.pos++;
            }
            if (s.peek() != '\n') {
                s.fail(1, s.here());
            }
            s.pos++;
            while (s.pos < s.lim && (s.peek() == ' ' || s.peek() == '\t')) {
                s.pos++;
            }
        }

        private void choice(int depth, int openAt) {
            if (depth >= PARTS) {
                s.fail(4, s.here());
            }
            boolean alone = lineStart;
            int patch = flush();
            g.emit(TAG, openAt, 0);
            s.pos += 2;
            int ends = 0;
            int unless = condition(depth);
            restOfLine(alone, patch);
            int r = branch(depth, BRANCH);
            for (int i = 0; i < FILESIZE && r != W_ENDIF; i++) {
                g.emit(JUMP, ends);
                ends = g.codeEnd - 1;
                g.patch(unless);
                unless = NONE;
                if (r == W_ELSEIF) {
                    boolean wasAlone = endAlone;
                    int wasPatch = endPatch;
                    unless = condition(depth);
                    restOfLine(wasAlone, wasPatch);
                    r = branch(depth, BRANCH);
                } else {
                    r = branch(depth, LAST_BRANCH);
                }
            }
            g.patch(unless);
            for (int i = 0; i < FILESIZE && ends > 0; i++) {
                int before = get(g.code, ends);
                g.patch(ends);
                ends = before;
            }
        }

        /** ( COND ) and the CLOSE: where its jump is to be patched. */
        private int condition(int depth) {
            s.need('(');
            either(depth);
            s.need(')');
            s.need(close);
            g.emit(UNLESS, 0);
            return g.codeEnd - 1;
        }

        private int branch(int depth, int within) {
            g.emit(ENTER);
            int r = text(depth + 1, within);
            g.emit(LEAVE);
            return r;
        }

        private int branchEnd(int w, int within) {
            if (within != BRANCH && (within != LAST_BRANCH || w != W_ENDIF)) {
                s.fail(1, s.here());
            }
            endAlone = lineStart;
            endPatch = flush();
            s.pos = s.rowEnd(s.pos);
            if (w != W_ELSEIF) {
                s.need(close);
                restOfLine(endAlone, endPatch);
            }
            return w;
        }

        private int region(int depth, int within, int openAt) {
            int sign = s.here();
            s.pos++;
            s.blanks();
            int to = s.rowEnd(s.pos);
            if (to == s.pos) {
                s.fail(1, s.here());
            }
            if (s.isHere(to, "end")) {
                return regionEnd(to, within);
            }
            if (s.isHere(to, "super")) {
                superRegion(sign, to, openAt);
                return STOOD;
            }
            if (kind != TEMPLATE) {
                s.fail(1, sign);
            }
            int at = s.here();
            int name = s.take(s.nameEnd(TAGWORDS), g.names);
            for (int i = firstPart; i < g.partCount; i++) {
                if (get(g.parts, i * Gen.PARTSIZE + 2) == name) {
                    s.fail(3, at);
                }
            }
            s.blanks();
            if (s.peek() == '(') {
                s.pos++;
                s.need(')');
                s.need(close);
                partCall(openAt, name, 0, at);
            } else {
                block(depth, sign, openAt, name);
            }
            return STOOD;
        }

        private int regionEnd(int to, int within) {
            if (within != IN_REGION) {
                s.fail(1, s.here());
            }
            boolean alone = lineStart;
            int patch = flush();
            s.pos = to;
            s.need(close);
            restOfLine(alone, patch);
            return REGION_END;
        }

        private void superRegion(int sign, int superEnd, int openAt) {
            if (kind != REGION) {
                s.fail(1, sign);
            }
            s.pos = superEnd;
            s.need('.');
            s.blanks();
            int to = s.rowEnd(s.pos);
            if (!isLetter(s.peek()) || s.wordHere(to, TAGWORDS) != NONE) {
                s.fail(1, s.here());
            }
            int at = s.here();
            if (!s.isName(to, g.names, filled)) {
                s.fail(1, sign);
            }
            s.pos = to;
            s.need('(');
            s.need(')');
            s.need(close);
            partCall(openAt, filled, 1, at);
        }

        /** An @r() or @super.r(): a region whose own TEXT is empty. */
        private void partCall(int openAt, int name, int isSuper, int at) {
            int from = 0;
            int length = 0;
            if (lineStart) {
                from = runFrom;
                length = runLength;
                runLength = 0;
            }
            flush();
            lineStart = false;
            g.addPart(s.file, owner, name, isSuper, at);
            g.emit(PART, openAt, from, length);
            g.emit(0, 0);
            g.emit(s.file, name, 0);
            g.emit(END);
            g.patch(g.codeEnd - 6);
        }

        /** A region with a TEXT. */
        private void block(int depth, int sign, int openAt, int name) {
            boolean alone = lineStart;
            int patch = flush();
            s.need(close);
            if (depth >= PARTS) {
                s.fail(4, sign);
            }
            g.addPart(s.file, owner, name, 0, 0);
            g.emit(PART, openAt, 0, 0);
            int skip = g.codeEnd;
            g.emit(0, 0);
            g.emit(s.file, name, 0);
            restOfLine(alone, patch);
            text(depth + 1, IN_REGION);
            g.emit(END);
            g.patch(skip);
        }

        private void expression(int depth, int openAt) {
            int from = 0;
            int length = 0;
            if (lineStart) {
                from = runFrom;
                length = runLength;
                runLength = 0;
            }
            flush();
            lineStart = false;
            g.emit(TAG, openAt, 0);
            int start = g.codeEnd;
            member(depth);
            int members = 1;
            s.blanks();
            for (int i = 0; s.peek() == ',' && i < FILESIZE; i++) {
                s.pos++;
                s.blanks();
                member(depth);
                members++;
                s.blanks();
            }
            if (members > 1) {
                sideBySide(depth, members);
            }
            for (int i = 0; members == 1 && s.peek() == ':' && i < FILESIZE; i++) {
                applied(depth, true);
                s.blanks();
            }
            g.emit(WRITE, from, length, 0);
            if (s.peek() == ';') {
                int skip = g.codeEnd - 1;
                g.patch(start - 1);
                s.pos++;
                options(depth);
                g.emit(JUMP, start);
                g.patch(skip);
            }
            s.need(close);
        }

        private void sideBySide(int depth, int members) {
            s.need(':');
            s.blanks();
            if (s.peek() != '{') {
                s.fail(1, s.here());
            }
            int at = s.here();
            g.emit(ZIP, members, 0);
            int skip = g.codeEnd - 1;
            if (sub(depth + 1) != members) {
                g.addLate(s.file, at);
            }
            g.patch(skip);
            s.blanks();
        }

        private void options(int depth) {
            int had = 0;
            boolean more = true;
            for (int i = 0; more && i <= FILESIZE; i++) {
                s.blanks();
                int to = s.rowEnd(s.pos);
                int which = s.wordHere(to, OPTIONWORDS);
                if (which == NONE) {
                    s.fail(1, s.here());
                }
                if ((had & 1 << which) != 0) {
                    s.fail(3, s.here());
                }
                had |= 1 << which;
                s.pos = to;
                s.blanks();
                int place = 0;
                if (s.peek() == '=') {
                    s.pos++;
                    s.blanks();
                    place = s.here();
                    argument(depth + 1);
                } else if (which < 3) {
                    s.fail(1, s.here());
                } else {
                    g.emit(PUSH, which == 4 ? YES : STRING | 1);
                }
                option(which, place);
                s.blanks();
                more = s.peek() == ',';
                s.pos += more ? 1 : 0;
            }
        }

        private void option(int which, int place) {
            if (which == 2 || which == 3) {
                g.emit(SPELLIF, 0, place, g.codeEnd + 4);
            }
            if (which == 2) {
                g.emit(FORMAT, place);
            } else {
                g.emit(OPTION, which);
            }
        }

        private void argument(int depth) {
            s.blanks();
            if (depth > PARTS) {
                int to = s.rowEnd(s.pos);
                int w = s.wordHere(to, TAGWORDS);
                int c = s.peek();
                boolean isSign = c == '"' || c == '\'' || c == '{' || c == '[' || c == '(';
                if (!isSign && !isLetter(c) || w >= W_IF && w <= W_ENDIF) {
                    s.fail(1, s.here());
                }
                s.fail(isLetter(c) && to - s.pos > NAMELENGTH ? 2 : 4, s.here());
            }
            member(depth);
            s.blanks();
            for (int i = 0; s.peek() == ':' && i < FILESIZE; i++) {
                applied(depth, false);
                s.blanks();
            }
        }

        private void member(int depth) {
            primary(depth);
            s.blanks();
            for (int i = 0; s.peek() == '.' && i < FILESIZE; i++) {
                int place = s.here();
                s.pos++;
                s.blanks();
                if (s.peek() == '(') {
                    s.pos++;
                    argument(depth + 1);
                    s.need(')');
                    g.emit(SPELLIF, 4, place, g.codeEnd + 6);
                    g.emit(DOTBY, place);
                } else {
                    g.emit(DOT, s.take(s.nameEnd(TAGWORDS), g.names), place);
                }
                s.blanks();
            }
        }

        private void primary(int depth) {
            s.blanks();
            int c = s.peek();
            if (c == '"' || c == '\'') {
                g.emit(PUSH, s.string(g, s.stringEnd()));
            } else if (c == '{') {
                g.emit(BLOCK, 0);
                int skip = g.codeEnd - 1;
                sub(depth + 1);
                g.patch(skip);
            } else if (c == '[') {
                items(depth);
            } else if (c == '(') {
                parenthesis(depth);
            } else {
                wordy(depth);
            }
        }

        private void items(int depth) {
            s.pos++;
            s.blanks();
            int n = 0;
            if (s.peek() != ']') {
                boolean more = true;
                for (int i = 0; more && i <= FILESIZE; i++) {
                    s.blanks();
                    if (s.peek() == ',' || s.peek() == ']') {
                        g.emit(PUSH, NONE);
                    } else {
                        argument(depth + 1);
                        s.blanks();
                    }
                    n++;
                    more = s.peek() == ',';
                    s.pos += more ? 1 : 0;
                }
            }
            s.need(']');
            g.emit(ITEMS, n);
        }

        private void parenthesis(int depth) {
            int sign = s.here();
            s.pos++;
            argument(depth + 1);
            s.need(')');
            s.blanks();
            if (s.peek() != '(') {
                g.emit(SPELL);
                return;
            }
            s.pos++;
            g.emit(SPELLIF, 2, sign, 0);
            int without = g.codeEnd - 1;
            g.emit(FIND, sign, 0);
            int unknown = g.codeEnd - 1;
            args(depth);
            g.emit(CALLBY, sign);
            g.emit(argCount, argFlags, argNamed);
            g.patch(without);
            g.patch(unknown);
        }

        private void wordy(int depth) {
            int place = s.here();
            int to = s.rowEnd(s.pos);
            int w = s.wordHere(to, TAGWORDS);
            if (w == W_TRUE || w == W_FALSE) {
                s.pos = to;
                g.emit(PUSH, w == W_TRUE ? YES : NO);
            } else if (w == W_SUPER) {
                superCall(to, depth, 0);
            } else if (w >= 0 && w <= W_TRIM) {
                s.pos = to;
                s.need('(');
                argument(depth + 1);
                s.need(')');
                function(w, place);
            } else {
                int name = s.take(s.nameEnd(TAGWORDS), g.names);
                s.blanks();
                if (s.peek() == '(') {
                    s.pos++;
                    args(depth);
                    call(name, place, 0);
                } else {
                    g.emit(NAME, name, place);
                }
            }
        }

        private void function(int w, int place) {
            if (w <= W_LENGTH) {
                g.emit(FUNCTION, w);
            } else {
                g.emit(SPELLIF, 6, place, g.codeEnd + 5);
                g.emit(w == W_STRLEN ? STRLEN : TRIM);
            }
        }

        /** super . NAME ( ARGS ) */
        private void superCall(int to, int depth, int flags) {
            s.pos = to;
            s.need('.');
            s.blanks();
            int place = s.here();
            int name = s.take(s.nameEnd(TAGWORDS), g.names);
            s.need('(');
            args(depth);
            call(name, place, flags | SUPER);
        }

        private void call(int name, int place, int flags) {
            g.addCall(s.file);
            g.emit((flags & APPLIED) != 0 ? EACHCALL : CALL, 0, name, place);
            g.emit(argCount, argFlags | flags, argNamed);
        }

        /** ARGS and the ) behind them. */
        private void args(int depth) {
            s.blanks();
            int n = 0;
            int flags = 0;
            int named = 0;
            if (s.peek() == '.') {
                dots();
                flags = DOTS;
            } else if (isNamedAhead()) {
                flags = BYNAME;
                boolean more = true;
                for (int i = 0; more && i <= FILESIZE; i++) {
                    named = namedArg(depth, named);
                    n++;
                    s.blanks();
                    more = s.peek() == ',';
                    s.pos += more ? 1 : 0;
                    s.blanks();
                    if (more && s.peek() == '.') {
                        dots();
                        flags |= DOTS;
                        more = false;
                    }
                }
            } else if (s.peek() != ')') {
                boolean more = true;
                for (int i = 0; more && i <= FILESIZE; i++) {
                    argument(depth + 1);
                    n++;
                    s.blanks();
                    more = s.peek() == ',';
                    s.pos += more ? 1 : 0;
                }
            }
            s.need(')');
            argCount = n;
            argFlags = flags;
            argNamed = named;
        }

        private void dots() {
            if (s.at(s.pos + 1) != '.' || s.at(s.pos + 2) != '.') {
                s.fail(1, s.here());
            }
            s.pos += 3;
        }

        private boolean isNamedAhead() {
            int to = s.rowEnd(s.pos);
            return to > s.pos && s.at(s.blanksEnd(to)) == '=';
        }

        /** A NAMED behind this one: where its own code is. */
        private int namedArg(int depth, int before) {
            s.blanks();
            int place = s.here();
            int name = s.take(s.nameEnd(TAGWORDS), g.names);
            int at = before;
            for (int i = 0; at > 0 && i < FILESIZE; i++) {
                if (get(g.code, at + 1) == name) {
                    s.fail(3, place);
                }
                at = get(g.code, at + 3);
            }
            s.need('=');
            argument(depth + 1);
            g.emit(NAMED, name, place, before);
            return g.codeEnd - 4;
        }

        /** : APPLIED, perhaps many in turn. */
        private void applied(int depth, boolean mayBeMany) {
            s.pos++;
            g.emit(APPLY, 0, 0);
            int start = g.codeEnd;
            int link = 0;
            int n = 0;
            boolean more = true;
            for (int i = 0; more && i <= FILESIZE; i++) {
                s.blanks();
                link = s.peek() == '(' ? appliedBy(depth, n, link) : appliedOne(depth, link);
                n++;
                s.blanks();
                more = mayBeMany && s.peek() == ',';
                s.pos += more ? 1 : 0;
            }
            set(g.code, start - 2, n);
            g.emit(NEXT, n, 0);
            int exit = g.codeEnd - 1;
            int table = g.codeEnd;
            for (int i = 0; i < n; i++) {
                g.emit(0);
            }
            for (int i = n - 1; i >= 0 && link > 0; i--) {
                set(g.code, table + i, link + 1);
                link = get(g.code, link);
            }
            g.patch(start - 1);
            g.patch(exit);
        }

        /** A SUB, NAME ( ARGS ) or super . NAME ( ARGS ) that is APPLIED; its code is jumped
         * over, and linked to that of the one ahead. */
        private int appliedOne(int depth, int before) {
            g.emit(JUMP, 0, before);
            int link = g.codeEnd - 1;
            int place = s.here();
            int to = s.rowEnd(s.pos);
            if (s.peek() == '{') {
                g.emit(EACHSUB);
                if (sub(depth + 1) > 1) {
                    g.addLate(s.file, place);
                }
            } else if (s.wordHere(to, TAGWORDS) == W_SUPER) {
                superCall(to, depth, APPLIED);
            } else {
                int name = s.take(s.nameEnd(TAGWORDS), g.names);
                s.need('(');
                args(depth);
                call(name, place, APPLIED);
            }
            g.patch(link - 1);
            return link;
        }

        /** ( ARG ) ( ARGS ) that is APPLIED: its name is worked out ahead of all. */
        private int appliedBy(int depth, int which, int before) {
            int sign = s.here();
            s.pos++;
            argument(depth + 1);
            s.need(')');
            s.need('(');
            g.emit(SPELLIF, 2, sign, g.codeEnd + 4);
            g.emit(SLOT, which, sign);
            g.emit(JUMP, 0, before);
            int link = g.codeEnd - 1;
            args(depth);
            g.emit(EACHBY, sign);
            g.emit(argCount, argFlags, argNamed);
            g.emit(which);
            g.patch(link - 1);
            return link;
        }

        /** A SUB, with its head: how many PARAMS it has. */
        private int sub(int depth) {
            if (depth > PARTS) {
                s.fail(4, s.here());
            }
            s.pos++;
            int head = g.codeEnd;
            g.emit(s.file, NONE, 0);
            int n = 0;
            boolean more = isParamsAhead();
            for (int i = 0; more && i <= FILESIZE; i++) {
                s.blanks();
                int place = s.here();
                int name = s.take(s.nameEnd(" "), g.names);
                if (g.paramOf(head, name) != NONE) {
                    s.fail(3, place);
                }
                if (n >= PARAMS) {
                    s.fail(4, place);
                }
                g.emit(name, BARE);
                n++;
                set(g.code, head + 2, n);
                s.blanks();
                more = s.peek() == ',';
                s.pos++;
            }
            boolean outer = inSub;
            inSub = true;
            lineStart = true;
            text(depth, ALONE);
            if (s.peek() != '}') {
                s.fail(1, s.here());
            }
            s.pos++;
            g.emit(END);
            inSub = outer;
            lineStart = false;
            return n;
        }

        private boolean isParamsAhead() {
            int p = s.pos;
            for (int i = 0; i < FILESIZE; i++) {
                p = s.blanksEnd(p);
                if (!isLetter(s.at(p))) {
                    return false;
                }
                p = s.blanksEnd(s.rowEnd(p));
                if (s.at(p) != ',') {
                    return s.at(p) == '|';
                }
                p++;
            }
            return false;
        }

        private void either(int depth) {
            both(depth);
            s.blanks();
            for (int i = 0; i < FILESIZE && s.peek() == '|' && s.at(s.pos + 1) == '|'; i++) {
                s.pos += 2;
                g.emit(IFSO, 0);
                int patch = g.codeEnd - 1;
                both(depth);
                g.patch(patch);
                s.blanks();
            }
        }

        private void both(int depth) {
            negation(depth);
            s.blanks();
            for (int i = 0; i < FILESIZE && s.peek() == '&' && s.at(s.pos + 1) == '&'; i++) {
                s.pos += 2;
                g.emit(IFNOT, 0);
                int patch = g.codeEnd - 1;
                negation(depth);
                g.patch(patch);
                s.blanks();
            }
        }

        private void negation(int depth) {
            s.blanks();
            int c = s.peek();
            if (c != '!' && c != '(') {
                member(depth);
                g.emit(TEST);
                return;
            }
            if (depth >= PARTS) {
                s.fail(4, s.here());
            }
            s.pos++;
            if (c == '!') {
                negation(depth + 1);
                g.emit(NOT);
            } else {
                either(depth + 1);
                s.need(')');
            }
        }
    }

    /** Reads files, and what they import. */
    private static final class FileReader {
        private final byte[][] files;
        private final int[] sizes;
        private final Source s;
        private Gen g;
        private final TextReader t;
        private final int[] names = new int[PARAMS + 1];
        private final int[] defaults = new int[PARAMS + 1];
        private int params = 0;
        private final int[] keys = new int[1400];
        private final int[] contents = new int[1400];
        private int entries = 0;
        private int otherwise = BARE;
        private final int[] way = new int[9];
        private final int[] step = new int[9];
        private int deep = 0;
        private int firstDef = 0;
        // The definition at hand, and what of it is still to be read.
        private int def = 0;
        private int ahead = NONE;
        private boolean hasBody = false;

        FileReader(byte[][] allFiles, int[] allSizes, Source source, Gen gen) {
            g = gen;
            files = allFiles;
            sizes = allSizes;
            s = source;
            t = new TextReader(source, gen);
        }

        /** File k is read, then each file that it imports with what that imports. */
        void openAll(Gen gen, int k) {
            g = gen;
            g.forget();
            deep = 0;
            ahead = NONE;
            hasBody = false;
            openFile(k);
        }

        /** Whether a definition stands ahead, in this file or in one that is opened for it. */
        boolean isMore() {
            s.skip();
            for (int i = 0; i < 1000 && deep > 0 && s.pos >= s.lim; i++) {
                int f = get(way, deep - 1);
                int n = get(step, deep - 1);
                if (n >= get(g.imports.directs, f)) {
                    deep--;
                } else {
                    set(step, deep - 1, n + 1);
                    openFile(get(g.imports.direct, 8 * f + n));
                }
            }
            return s.pos < s.lim;
        }

        private void openFile(int f) {
            if (f < 0 || f >= files.length || g.imports.wasRead(f) || deep > 8) {
                return;
            }
            set(way, deep, f);
            set(step, deep, 0);
            deep++;
            g.imports.noteRead(f);
            s.openFile(f, files[f], get(sizes, f));
            t.openFile(g);
            firstDef = g.defCount;
            head();
        }

        private void head() {
            s.skip();
            int to = s.rowEnd(s.pos);
            if (s.isHere(to, "delimiters")) {
                s.pos = to;
                t.open = delimiter();
                s.sign(',');
                t.close = delimiter();
                s.skip();
                to = s.rowEnd(s.pos);
            }
            for (int i = 0; i < FILESIZE && s.isHere(to, "import"); i++) {
                s.pos = to;
                s.skip();
                int n = s.peek() - '0';
                if (n < 0 || n > 7) {
                    s.fail(1, s.pos);
                }
                if (isOnTheWay(n) || get(sizes, n) == 0) {
                    s.fail(5, s.pos);
                }
                g.imports.note(s.file, n);
                s.pos++;
                s.skip();
                to = s.rowEnd(s.pos);
            }
        }

        private boolean isOnTheWay(int f) {
            for (int i = 0; i < deep; i++) {
                if (get(way, i) == f) {
                    return true;
                }
            }
            return false;
        }

        private int delimiter() {
            s.skip();
            if (s.peek() != '"') {
                s.fail(1, s.pos);
            }
            int to = s.stringEnd();
            int c = s.at(s.pos + 1);
            boolean isOne = to == s.pos + 2 && !isRow(c) && c != ' ' && c != '\t';
            if (!isOne || NODELIMITER.indexOf((char) c) >= 0) {
                s.fail(2, s.pos);
            }
            s.pos = to + 1;
            return c;
        }

        /** The definition at hand, but for its PARAMs, ENTRYs and the TEXT of its BODY. */
        void definition() {
            int place = s.pos;
            if (s.peek() == '@') {
                regionFilled(place);
                return;
            }
            int name = s.take(s.nameEnd(FILEWORDS), g.names);
            for (int i = firstDef; i < g.defCount; i++) {
                int at = i * Gen.DEFSIZE;
                if (get(g.defs, at) != REGION && get(g.defs, at + 2) == name) {
                    s.fail(3, place);
                }
            }
            if (g.defCount - firstDef >= DEFINITIONS) {
                s.fail(4, place);
            }
            s.skip();
            if (s.peek() == '(') {
                def = g.newDef(TEMPLATE, s.file, name, place);
                ahead = TEMPLATE;
                return;
            }
            s.becomes();
            s.skip();
            if (s.peek() == '[') {
                def = g.newDef(DICT, s.file, name, place);
                ahead = DICT;
            } else {
                int target = s.pos;
                int to = s.take(s.nameEnd(FILEWORDS), g.names);
                def = g.newDef(ALIAS, s.file, name, place);
                set(g.defs, def + 4, to);
                set(g.defs, def + 6, target);
            }
        }

        private void regionFilled(int place) {
            if (g.defCount - firstDef >= DEFINITIONS) {
                s.fail(4, place);
            }
            s.pos++;
            s.skip();
            int template = s.take(s.nameEnd(FILEWORDS), g.names);
            s.sign('.');
            s.skip();
            int second = s.pos;
            int name = s.take(s.nameEnd(FILEWORDS), g.names);
            for (int i = firstDef; i < g.defCount; i++) {
                int at = i * Gen.DEFSIZE;
                if (get(g.defs, at) == REGION && get(g.defs, at + 2) == template
                    && get(g.defs, at + 5) == name) {
                    s.fail(3, second);
                }
            }
            def = g.newDef(REGION, s.file, template, place);
            set(g.defs, def + 5, name);
            set(g.defs, def + 6, second);
            s.sign('(');
            s.sign(')');
            s.becomes();
            openBody();
            t.define(REGION, template, name);
            set(g.defs, def + 4, g.codeEnd);
            g.emit(s.file, NONE, 0);
        }

        /** The TEXT of the BODY of that definition, if it has one. */
        void body() {
            if (hasBody) {
                hasBody = false;
                t.startText();
                t.text(0, TextReader.ALONE);
                g.emit(END);
                s.closeBody();
            }
        }

        /** The PARAMs of that definition, if it is a TEMPLATE. */
        void params() {
            if (ahead != TEMPLATE) {
                return;
            }
            ahead = NONE;
            s.pos++;
            params = 0;
            s.skip();
            boolean hadDefault = false;
            boolean more = s.peek() != ')';
            for (int i = 0; more && i < FILESIZE; i++) {
                s.skip();
                boolean hasDefault = param(hadDefault);
                if (hasDefault) {
                    hadDefault = true;
                    s.skip();
                    int v = s.peek() == '[' ? emptyList() : constant(false);
                    if (v == SUB) {
                        v = SUB | g.codeEnd;
                        t.startConstant();
                        t.sub(1);
                    }
                    set(defaults, params - 1, v);
                    s.skip();
                }
                more = s.peek() == ',';
                s.pos += more ? 1 : 0;
            }
            s.sign(')');
            s.becomes();
            openBody();
            int name = get(g.defs, def + 2);
            set(g.defs, def + 4, g.codeEnd);
            g.emit(s.file, name, params);
            for (int i = 0; i < params; i++) {
                g.emit(get(names, i), get(defaults, i));
            }
            t.define(TEMPLATE, name, NONE);
        }

        /** A PARAM: whether a DEFAULT follows. */
        private boolean param(boolean hadDefault) {
            int place = s.pos;
            int name = s.take(s.nameEnd(FILEWORDS), g.names);
            int behind = s.past(s.pos);
            boolean isLast = behind == NONE || s.at(behind) != '=';
            checkParam(name, place, hadDefault && isLast);
            set(names, params, name);
            set(defaults, params, BARE);
            params++;
            s.skip();
            s.pos += isLast ? 0 : 1;
            return !isLast;
        }

        private void checkParam(int name, int place, boolean lacksDefault) {
            for (int i = 0; i < params; i++) {
                if (get(names, i) == name) {
                    s.fail(3, place);
                }
            }
            if (lacksDefault) {
                s.fail(3, place);
            }
            if (params >= PARAMS) {
                s.fail(4, place);
            }
        }

        /** The DEFAULT [ ] . */
        private int emptyList() {
            s.pos++;
            s.sign(']');
            return ROW;
        }

        /** A STRING, true, false, perhaps key, as a value; SUB if one stands here, unread. */
        private int constant(boolean mayBeKey) {
            if (s.peek() == '"') {
                return s.string(g, s.stringEnd());
            }
            if (s.peek() == '{') {
                return SUB;
            }
            int to = s.rowEnd(s.pos);
            boolean isTrue = s.isHere(to, "true");
            boolean isKey = mayBeKey && s.isHere(to, "key");
            if (!isTrue && !isKey && !s.isHere(to, "false")) {
                s.fail(1, s.pos);
            }
            s.pos = to;
            return isKey ? ITSELF : isTrue ? YES : NO;
        }

        /** The ENTRYs of that definition, if it is a DICTIONARY. */
        void entries() {
            if (ahead != DICT) {
                return;
            }
            ahead = NONE;
            s.pos++;
            entries = 0;
            otherwise = BARE;
            boolean more = true;
            for (int i = 0; more && i < FILESIZE; i++) {
                s.skip();
                boolean isLast = s.peek() != '"';
                int key = isLast ? defaultWord() : newKey();
                s.sign(':');
                s.skip();
                int v = constant(true);
                if (v == SUB) {
                    v = SUB | g.codeEnd;
                    t.startConstant();
                    t.sub(1);
                }
                if (isLast) {
                    otherwise = v;
                } else {
                    set(keys, entries, key);
                    set(contents, entries, v);
                    entries++;
                }
                s.skip();
                more = !isLast && s.peek() == ',';
                s.pos += more ? 1 : 0;
            }
            s.sign(']');
            set(g.defs, def + 4, g.codeEnd);
            g.emit(s.file, get(g.defs, def + 2), entries, otherwise);
            for (int i = 0; i < entries; i++) {
                g.emit(get(keys, i), get(contents, i));
            }
        }

        private int defaultWord() {
            int to = s.rowEnd(s.pos);
            if (!s.isHere(to, "default")) {
                s.fail(1, s.pos);
            }
            s.pos = to;
            return NONE;
        }

        private int newKey() {
            int place = s.pos;
            int key = s.string(g, s.stringEnd());
            for (int i = 0; i < entries; i++) {
                if (g.sameString(get(keys, i), key)) {
                    s.fail(3, place);
                }
            }
            return key;
        }

        /** Finds where the BODY at hand ends, and turns to its TEXT. */
        private void openBody() {
            hasBody = true;
            s.skip();
            int from = s.pos + 2;
            if (s.peek() == '"') {
                int to = s.stringEnd();
                s.openBody(s.pos + 1, to, false, to, to + 1);
                return;
            }
            int second = s.at(s.pos + 1);
            if (s.peek() != '<' || second != '<' && second != '%') {
                s.fail(1, s.pos);
            }
            int first = second == '<' ? '>' : '%';
            int ender = from;
            while (ender < s.lim && (s.at(ender) != first || s.at(ender + 1) != '>')) {
                ender++;
            }
            if (ender >= s.lim) {
                s.fail(1, s.lim);
            }
            int to = ender;
            if (first == '>') {
                from += from < to && s.at(from) == '\n' ? 1 : 0;
                to -= from < to && s.at(to - 1) == '\n' ? 1 : 0;
            }
            s.openBody(from, to, first == '%', ender, ender + 2);
        }
    }

    /** Checks a generation when all its files are read, and ties its calls and regions. */
    private static final class Checker {
        private final Source s;
        private Gen g;
        private int file = 0;
        private int number = 0;
        private int place = 0;

        Checker(Source source, Gen gen) {
            s = source;
            g = gen;
        }

        void checkAll(Gen gen) {
            g = gen;
            g.imports.layWays();
            nameAll();
            for (int i = 0; i < g.imports.reads; i++) {
                file = get(g.imports.read, i);
                number = 0;
                checkDefs();
                checkCalls();
                checkParts();
                if (get(g.late, file) != NONE) {
                    mark(7, get(g.late, file));
                }
                if (number != 0) {
                    s.file = file;
                    s.fail(number, place);
                }
            }
            tieParts();
        }

        /** A FAULT of this file: the leftmost one stays, of those at one place the lowest. */
        private void mark(int n, int at) {
            if (number == 0 || at < place || at == place && n < number) {
                number = n;
                place = at;
            }
        }

        /** What file k has, by names. */
        private void nameAll() {
            for (int i = 0; i < g.names.count; i++) {
                set(g.template, i, NONE);
                set(g.dictionary, i, NONE);
            }
            g.templates = 0;
            int k = get(g.imports.read, 0);
            for (int i = 0; i < g.imports.wayLength(k); i++) {
                nameFile(g.imports.way(k, i));
            }
        }

        private void nameFile(int f) {
            for (int i = 0; i < g.defCount; i++) {
                int def = i * Gen.DEFSIZE;
                int kind = get(g.defs, def);
                int name = get(g.defs, def + 2);
                if (get(g.defs, def + 1) != f || kind == REGION) {
                    continue;
                }
                if (kind == DICT && get(g.dictionary, name) == NONE) {
                    set(g.dictionary, name, get(g.defs, def + 4));
                } else if (kind != DICT && get(g.template, name) == NONE) {
                    set(g.template, name, def);
                    g.templates++;
                }
            }
        }

        private void checkDefs() {
            for (int i = 0; i < g.defCount; i++) {
                int def = i * Gen.DEFSIZE;
                if (get(g.defs, def + 1) != file) {
                    continue;
                }
                if (get(g.defs, def) == ALIAS) {
                    checkAlias(def);
                } else if (get(g.defs, def) == REGION) {
                    int owner = templateFrom(file, 0, get(g.defs, def + 2));
                    boolean isOne = owner != NONE && get(g.defs, owner) == TEMPLATE
                        && ownPart(get(g.defs, owner + 1), get(g.defs, def + 2),
                            get(g.defs, def + 5)) != NONE;
                    if (!isOne) {
                        mark(9, get(g.defs, def + 6));
                    }
                }
            }
        }

        private void checkAlias(int def) {
            int at = get(g.template, get(g.defs, def + 4));
            if (at == NONE) {
                mark(6, get(g.defs, def + 6));
            }
            for (int i = 0; i <= 320 && at != NONE && get(g.defs, at) == ALIAS; i++) {
                if (at == def) {
                    mark(10, get(g.defs, def + 3));
                    return;
                }
                at = get(g.template, get(g.defs, at + 4));
            }
        }

        /** The TEMPLATE or ALIAS that the files on the way of f, from the first one on, have. */
        private int templateFrom(int f, int first, int name) {
            for (int i = first; i < g.imports.wayLength(f); i++) {
                int at = g.imports.way(f, i);
                for (int j = 0; j < g.defCount; j++) {
                    int def = j * Gen.DEFSIZE;
                    if (get(g.defs, def + 1) == at && get(g.defs, def + 2) == name
                        && (get(g.defs, def) == TEMPLATE || get(g.defs, def) == ALIAS)) {
                        return def;
                    }
                }
            }
            return NONE;
        }

        private void checkCalls() {
            for (int i = 0; i < g.callCount; i++) {
                if (get(g.calls, 2 * i + 1) == file) {
                    checkCall(get(g.calls, 2 * i));
                }
            }
        }

        private void checkCall(int call) {
            int name = get(g.code, call + 2);
            int at = get(g.code, call + 3);
            boolean isSuper = (get(g.code, call + 5) & SUPER) != 0;
            int def = isSuper ? templateFrom(file, 1, name) : get(g.template, name);
            if (def == NONE) {
                mark(isSuper ? 9 : 6, at);
                return;
            }
            int text = g.textOf(def);
            if (text == NONE) {
                return;
            }
            set(g.code, call + 1, text);
            if (!mayHaveArgs(call, text)) {
                mark(7, at);
            }
            int named = get(g.code, call + 6);
            for (int i = 0; i < FILESIZE && named > 0; i++) {
                if (g.paramOf(text, get(g.code, named + 1)) == NONE) {
                    mark(8, get(g.code, named + 2));
                }
                named = get(g.code, named + 3);
            }
        }

        private boolean mayHaveArgs(int call, int text) {
            int params = get(g.code, text + 2);
            int args = get(g.code, call + 4);
            int flags = get(g.code, call + 5);
            int given = (flags & APPLIED) != 0 ? 1 : 0;
            if (given > params) {
                return false;
            }
            if ((flags & BYNAME) == 0) {
                given += args;
                if (given > params) {
                    return false;
                }
            }
            for (int i = given; i < params && (flags & DOTS) == 0; i++) {
                boolean isBare = get(g.code, text + 4 + 2 * i) == BARE;
                if (isBare && !isNamed(call, get(g.code, text + 3 + 2 * i))) {
                    return false;
                }
            }
            return true;
        }

        private boolean isNamed(int call, int name) {
            int named = get(g.code, call + 6);
            for (int i = 0; i < FILESIZE && named > 0; i++) {
                if (get(g.code, named + 1) == name) {
                    return true;
                }
                named = get(g.code, named + 3);
            }
            return false;
        }

        private void checkParts() {
            for (int i = 0; i < g.partCount; i++) {
                int part = i * Gen.PARTSIZE;
                if (get(g.parts, part) == file && get(g.parts, part + 4) == 1
                    && partFrom(file, 1, get(g.parts, part + 1), get(g.parts, part + 2)) == NONE) {
                    mark(9, get(g.parts, part + 5));
                }
            }
        }

        /** Where the text of a region stands in the TEMPLATE of this name of this file. */
        private int ownPart(int f, int owner, int name) {
            for (int i = 0; i < g.partCount; i++) {
                int part = i * Gen.PARTSIZE;
                if (get(g.parts, part + 2) == name && get(g.parts, part + 1) == owner
                    && get(g.parts, part) == f && get(g.parts, part + 4) == 0) {
                    return get(g.parts, part + 3) + 6;
                }
            }
            return NONE;
        }

        /** What this file fills the region with. */
        private int filledPart(int f, int owner, int name) {
            for (int i = 0; i < g.defCount; i++) {
                int def = i * Gen.DEFSIZE;
                if (get(g.defs, def) == REGION && get(g.defs, def + 1) == f
                    && get(g.defs, def + 2) == owner && get(g.defs, def + 5) == name) {
                    return get(g.defs, def + 4);
                }
            }
            return NONE;
        }

        /** What the files on the way of f, from the first one on, have of a region. */
        private int partFrom(int f, int first, int owner, int name) {
            for (int i = first; i < g.imports.wayLength(f); i++) {
                int at = g.imports.way(f, i);
                int text = filledPart(at, owner, name);
                if (text == NONE) {
                    text = ownPart(at, owner, name);
                }
                if (text != NONE) {
                    return text;
                }
            }
            return NONE;
        }

        private void tieParts() {
            int k = get(g.imports.read, 0);
            for (int i = 0; i < g.partCount; i++) {
                int part = i * Gen.PARTSIZE;
                boolean isSuper = get(g.parts, part + 4) == 1;
                int text = partFrom(isSuper ? get(g.parts, part) : k, isSuper ? 1 : 0,
                    get(g.parts, part + 1), get(g.parts, part + 2));
                set(g.code, get(g.parts, part + 3) + 5, text);
            }
        }
    }

    // ---- Making a text.

    /** What is told of a text: ERRORS, LOOKS, and how many of them and of INSTANCES there are. */
    private static final class Teller {
        final int[] errors = new int[1200];
        final int[] looks = new int[2000];
        final int[] counts = new int[3];

        void forget() {
            Arrays.fill(counts, 0);
        }

        void noteError(int number, int file, int place) {
            int at = 3 * counts[0];
            if (at >= 0 && at + 2 < errors.length) {
                errors[at] = number;
                errors[at + 1] = file;
                errors[at + 2] = place;
            }
            counts[0]++;
        }

        void noteLook(int bean, int which) {
            int n = get(counts, 1);
            if (n < 1000) {
                set(looks, 2 * n, bean);
                set(looks, 2 * n + 1, which);
            }
            set(counts, 1, n + 1);
        }
    }

    /** What there is besides the values of the house while a text is made: INSTANCES, LISTs (a
     * row of rows: how many, then they) and WORDs. A throw says that the text ENDS. */
    private static final class Heap {
        final Store store;
        private final Teller teller;
        private Gen g;
        final int[] text = new int[2000];
        final int[] parent = new int[2000];
        final int[] turn = new int[2000];
        final int[] attrs = new int[2000 * PARAMS];
        private int made = 0;
        final int[] rows = new int[45000];
        private int rowsEnd = 1;
        private int listed = 0;
        final byte[] words = new byte[40000];
        private int wordsEnd = 0;
        private final int[] rootNames = new int[40];
        private final int[] rootValues = new int[40];
        private int rootCount = 0;
        // Where the bytes of the value that was spelled last are.
        byte[] spelled = words;
        int from = 0;
        int length = 0;
        private final byte[] digits = new byte[20];

        Heap(Store s, Teller t, Gen gen) {
            store = s;
            teller = t;
            g = gen;
        }

        void forget(Gen gen) {
            g = gen;
            made = 0;
            rowsEnd = 1;
            listed = 0;
            wordsEnd = 0;
            rootCount = 0;
        }

        /** A new INSTANCE, each attribute being that. */
        int make(int aText, int aParent, int each) {
            if (made < 0 || made >= text.length || made >= parent.length || made >= turn.length) {
                throw new IllegalStateException();
            }
            text[made] = aText;
            parent[made] = aParent;
            turn[made] = 0;
            int first = made * PARAMS;
            for (int i = 0; i < PARAMS && first + i < attrs.length; i++) {
                attrs[first + i] = each;
            }
            made++;
            teller.counts[2] = made;
            return made - 1;
        }

        void addToRoot(int name, int value) {
            set(rootNames, rootCount, name);
            set(rootValues, rootCount, value);
            rootCount++;
        }

        /** n values more come to LISTs. */
        void counted(int n) {
            if (listed + n > 20000) {
                throw new IllegalStateException();
            }
            listed += n;
        }

        /** Room for a LIST of n values that were counted. */
        int room(int n) {
            if (n <= 0) {
                return ROW;
            }
            int at = rowsEnd;
            if (at < 0 || at >= rows.length - n) {
                throw new IllegalStateException();
            }
            rows[at] = n;
            rowsEnd += n + 1;
            return ROW | at;
        }

        /** Room for a LIST of n values, counted all at once. */
        int newRow(int n) {
            counted(n);
            return room(n);
        }

        void put(int row, int i, int v) {
            set(rows, (row & REST) + 1 + i, v);
        }

        int newWord(byte[] b, int at, int n) {
            if (wordsEnd + n > words.length) {
                throw new IllegalStateException();
            }
            int start = wordsEnd;
            for (int i = 0; i < n; i++) {
                setByte(words, start + i, getByte(b, at + i));
            }
            wordsEnd += n;
            return MADE | start << 10 | n;
        }

        static int sortOf(int v) {
            return v < 0 ? v : v & ~REST;
        }

        boolean isHouse(int v, int sort) {
            return v >= 0 && v < store.count && v < store.sort.length && store.sort[v] == sort;
        }

        /** Whether it is a LIST or a MAP. */
        boolean isMany(int v) {
            if (v < 0 || v >= store.count || v >= store.sort.length) {
                return v >= 0 && (v & ~REST) == ROW;
            }
            return store.sort[v] == LIST || store.sort[v] == MAP;
        }

        /** How many VALUES ONE BY ONE one that is no DICTIONARY has. */
        int countOf(int v) {
            if (v < 0) {
                return 0;
            }
            if (sortOf(v) == ROW) {
                return v == ROW ? 0 : get(rows, v & REST);
            }
            return isMany(v) ? get(store.size, v) : 1;
        }

        int valueOf(int v, int i) {
            if (sortOf(v) == ROW) {
                return get(rows, (v & REST) + 1 + i);
            }
            return isMany(v) ? get(store.cells, v * Store.CELLS + i) : v;
        }

        /** Of a DICTIONARY the LIST of its values; another value as it is. */
        int opened(int v) {
            if (sortOf(v) != DICTIONARY) {
                return v;
            }
            int at = v & REST;
            int n = get(g.code, at + 2);
            int row = newRow(n);
            for (int i = 0; i < n; i++) {
                put(row, i, content(get(g.code, at + 5 + 2 * i), get(g.code, at + 4 + 2 * i)));
            }
            return row;
        }

        /** What a VALUE of a DICTIONARY is for this key. */
        int content(int v, int key) {
            if (sortOf(v) == SUB) {
                return INSTANCE | make(v & REST, NONE, NONE);
            }
            return v == ITSELF ? key : v;
        }

        boolean isTrue(int v) {
            if (v == NONE || v == NO || isHouse(v, TRUTH) && !isYes(v)) {
                return false;
            }
            if (sortOf(v) == DICTIONARY) {
                return get(g.code, (v & REST) + 2) > 0;
            }
            return !isMany(v) || countOf(v) > 0;
        }

        private boolean isYes(int v) {
            return v >= 0 && v < store.much.length && store.much[v] != 0;
        }

        /** The attribute of an INSTANCE itself, UNGIVEN without one. */
        int ownOf(int instance, int name) {
            int param = g.paramOf(get(text, instance), name);
            if (param != NONE) {
                return get(attrs, instance * PARAMS + param);
            }
            int n = get(turn, instance);
            if (n > 0 && (name == 0 || name == 1)) {
                return COUNT | n - name;
            }
            for (int i = 0; instance == 0 && i < rootCount; i++) {
                if (get(rootNames, i) == name) {
                    return get(rootValues, i);
                }
            }
            return UNGIVEN;
        }

        /** What a NAME is in this INSTANCE, UNGIVEN without one. */
        int named(int instance, int name) {
            int at = instance;
            for (int i = 0; i <= 2000 && at >= 0; i++) {
                int v = ownOf(at, name);
                if (v != UNGIVEN) {
                    return v;
                }
                at = get(parent, at);
            }
            int dictionary = get(g.dictionary, name);
            return dictionary > 0 ? DICTIONARY | dictionary : UNGIVEN;
        }

        /** What was not given to an INSTANCE: DEFAULTS, or with ... what its name is in at. */
        void fillIn(int instance, boolean isDots, int at) {
            int head = get(text, instance);
            int n = get(g.code, head + 2);
            for (int i = 0; i < n; i++) {
                int cell = instance * PARAMS + i;
                if (get(attrs, cell) == UNGIVEN) {
                    int v = get(g.code, head + 4 + 2 * i);
                    if (sortOf(v) == SUB) {
                        v = INSTANCE | make(v & REST, instance, NONE);
                    } else if (v == BARE) {
                        v = isDots ? named(at, get(g.code, head + 3 + 2 * i)) : NONE;
                    }
                    set(attrs, cell, v == UNGIVEN ? NONE : v);
                }
            }
        }

        /** Finds the bytes of a value that has some. */
        void spell(int v) {
            int sort = sortOf(v);
            if (sort == STRING) {
                spelled = g.pool;
                from = (v & REST) >>> 12;
                length = v & 4095;
            } else if (sort == MADE) {
                spelled = words;
                from = (v & REST) >>> 10;
                length = v & 1023;
            } else if (sort == CALLED) {
                spelled = g.names.bytes;
                from = get(g.names.from, v & REST);
                length = g.names.lengthOf(v & REST);
            } else if (sort == KEY) {
                spelled = store.bytes;
                from = (v & REST) >>> 5;
                length = v & 31;
            } else if (isHouse(v, WORD) || isHouse(v, BEAN)) {
                spelled = store.bytes;
                from = get(store.from, v);
                length = get(store.length, v);
            } else if (sort == NO || isHouse(v, TRUTH)) {
                spellTruth(sort == NO ? v == YES : isYes(v));
            } else {
                spellNumber(sort == COUNT ? v & REST : v >= 0 && v < 500 ? store.much[v] : 0);
            }
        }

        private void spellTruth(boolean v) {
            String s = v ? "true" : "false";
            for (int i = 0; i < s.length(); i++) {
                setByte(digits, i, s.charAt(i));
            }
            spelled = digits;
            from = 0;
            length = s.length();
        }

        private void spellNumber(long v) {
            long left = v;
            int at = digits.length;
            do {
                int digit = (int) (left % 10);
                left = left / 10;
                at--;
                setByte(digits, at, '0' + (digit < 0 ? -digit : digit));
            } while (left != 0 && at > 0);
            if (v < 0) {
                at--;
                setByte(digits, at, '-');
            }
            spelled = digits;
            from = at;
            length = digits.length - at;
        }
    }

    /** The WRITER of the text (level 0) and of the WORDs within which it is. */
    private static final class Writer {
        private static final int MOST = 12000;
        private static final int WORDMOST = 1000;
        private final Teller teller;
        final byte[] text = new byte[MOST];
        final int[] noted = new int[3 * MOST];
        int length = 0;
        int width = 0;
        int column = 0;
        boolean atStart = true;
        int puts = 0;
        int level = 0;
        final byte[] words = new byte[33 * WORDMOST];
        int wordLength = 0;
        // INDENTs, as pieces of the pool; a WORD has only those from its base on.
        private byte[] pool;
        private final int[] indents = new int[200];
        int indentBase = 0;
        int indentEnd = 0;
        int anchor = 0;

        Writer(Teller t, Gen g) {
            teller = t;
            pool = g.pool;
        }

        void forget(Gen g, int aWidth) {
            pool = g.pool;
            length = 0;
            width = aWidth;
            level = 0;
            indentEnd = 0;
            freshLine();
        }

        /** As a new WRITER. */
        void freshLine() {
            column = 0;
            atStart = true;
            puts = 0;
            wordLength = 0;
            indentBase = indentEnd;
            anchor = 0;
        }

        void indent(int from, int n) {
            set(indents, 2 * indentEnd, from);
            set(indents, 2 * indentEnd + 1, n);
            indentEnd++;
        }

        int wordAt() {
            return (level - 1) * WORDMOST;
        }

        /** Whether a WORD has all the bytes that it may have: nothing can change it any more. */
        boolean isFull() {
            return level > 0 && wordLength >= WORDMOST;
        }

        void put(int b) {
            if (isFull()) {
                return;
            }
            if (b == '\n') {
                raw(b);
                column = 0;
                atStart = true;
                return;
            }
            if (atStart) {
                atStart = false;
                margin();
            }
            raw(b);
            column++;
        }

        /** The INDENTs, and blanks up to the ANCHOR. */
        void margin() {
            for (int i = indentBase; i < indentEnd; i++) {
                int from = get(indents, 2 * i);
                int n = get(indents, 2 * i + 1);
                for (int j = 0; j < n; j++) {
                    raw(from + j >= 0 && from + j < pool.length ? pool[from + j] : ' ');
                    column++;
                }
            }
            while (column < anchor) {
                raw(' ');
                column++;
            }
        }

        private void raw(int b) {
            puts++;
            if (level > 0) {
                int at = (level - 1) * WORDMOST + wordLength;
                if (wordLength < WORDMOST && at >= 0 && at < words.length) {
                    words[at] = (byte) b;
                    wordLength++;
                }
                return;
            }
            if (length < 0 || length >= text.length) {
                throw new IllegalStateException();
            }
            text[length] = (byte) b;
            int at = 3 * length;
            for (int i = 0; i < 3 && at + i < noted.length && i < teller.counts.length; i++) {
                noted[at + i] = teller.counts[i];
            }
            length++;
        }

        boolean mayWrap() {
            return level == 0 && width > 0 && !atStart && column >= width;
        }
    }

    /** Makes a text: a machine with a stack of values and one of what has been begun. */
    private static final class Maker {
        // What has been begun: an INSTANCE, a LIST, a value with options, a WORD, and what
        // waits to be written: an INSTANCE, bytes.
        private static final int IN_TEXT = 0;
        private static final int IN_LIST = 1;
        private static final int OPTIONS = 2;
        private static final int IN_WORD = 3;
        private static final int TEXT_AHEAD = 4;
        private static final int BYTES_AHEAD = 5;
        // A loop of APPLIED on the stack: the one around it, the values, how many were taken,
        // whether they are many, where NEXT is, and what each APPLIED by name is.
        private static final int SLOTS = 5;
        private static final int UPPER = 1;
        private static final int LOWER = 2;
        private static final int CAP = 3;
        private static final int XML = 4;
        private static final int URL = 5;
        private static final int BLANKS = 100;
        private static final int ZEROS = 200;

        final Teller teller;
        final Writer writer;
        private final Heap heap;
        private Gen g;
        private final int[] stack = new int[150000];
        private int top = 0;
        private final int[] frames = new int[75000];
        private int begun = 0;
        private int pc = 0;
        private int self = 0;
        private int element = 0;
        private int mark = 0;
        private int depth = 0;
        private int loop = 0;
        private int written = 0;
        private int separator = NONE;
        private int ofNothing = NONE;
        private int format = 0;
        private int wrap = NONE;
        boolean ended = false;
        int atFirst = 0;

        Maker(Store store, Gen gen) {
            Teller aTeller = new Teller();
            g = gen;
            teller = aTeller;
            heap = new Heap(store, aTeller, gen);
            writer = new Writer(aTeller, gen);
        }

        void makeAll(Gen gen, int text, int width) {
            g = gen;
            teller.forget();
            heap.forget(gen);
            writer.forget(gen, width);
            top = 0;
            begun = 0;
            depth = 0;
            written = 0;
            self = 0;
            ended = false;
            plain();
            try {
                root(text);
                for (int i = 0; i < 2000000000 && begun > 0; i++) {
                    int kind = get(frames, begun - 1);
                    int op = get(g.code, pc);
                    if (kind != IN_TEXT) {
                        goOn(kind);
                    } else if (op <= PART) {
                        textStep(op);
                    } else if (op <= TRIM) {
                        valueStep(op);
                    } else {
                        otherStep(op);
                    }
                }
            } catch (IllegalStateException full) {
                tell(8, element);
                ended = true;
            }
        }

        private void plain() {
            separator = NONE;
            ofNothing = NONE;
            format = 0;
            wrap = NONE;
        }

        private void tell(int number, int place) {
            teller.noteError(number, get(g.code, get(heap.text, self)), place);
        }

        private void root(int text) {
            Store store = heap.store;
            int instance = heap.make(text, NONE, UNGIVEN);
            for (int i = 0; i < store.addedCount; i++) {
                if (!store.isLater(i)) {
                    int v = valueAdded(i);
                    int name = g.names.find(store.addedNames, i * NAMELENGTH,
                        get(store.addedLengths, i));
                    int param = g.paramOf(text, name);
                    if (param != NONE && name != NONE) {
                        set(heap.attrs, param, v);
                    } else if (name != NONE) {
                        heap.addToRoot(name, v);
                    }
                }
            }
            heap.fillIn(instance, false, instance);
            atFirst = get(teller.counts, 2);
            write(INSTANCE | instance);
        }

        /** What was added by the name of this one: it, or the LIST of all of that name. */
        private int valueAdded(int first) {
            Store store = heap.store;
            int many = 0;
            int n = 0;
            for (int i = first; i < store.addedCount; i++) {
                if (store.sameName(first, i)) {
                    int v = get(store.addedValues, i);
                    many++;
                    n += heap.isHouse(v, LIST) ? heap.countOf(v) : 1;
                }
            }
            if (many < 2) {
                return get(store.addedValues, first);
            }
            int row = heap.newRow(n);
            n = 0;
            for (int i = first; i < store.addedCount; i++) {
                if (store.sameName(first, i)) {
                    int v = get(store.addedValues, i);
                    n = spread(row, n, v, heap.isHouse(v, LIST), FILESIZE);
                }
            }
            return row;
        }

        /** A value, or its values one by one, into a LIST from n on, of at most so many. */
        private int spread(int row, int first, int v, boolean isMany, int most) {
            int n = first;
            int all = isMany ? heap.countOf(v) : 1;
            for (int i = 0; i < all && n < most; i++) {
                heap.put(row, n, isMany ? heap.valueOf(v, i) : v);
                n++;
            }
            return n;
        }

        private int code(int i) {
            return get(g.code, pc + i);
        }

        private void push(int v) {
            if (top < 0 || top >= stack.length) {
                throw new IllegalStateException();
            }
            stack[top] = v;
            top++;
        }

        private int pop() {
            if (top <= 0 || top > stack.length) {
                return NONE;
            }
            top--;
            return stack[top];
        }

        private void start(int v) {
            if (begun < 0 || begun >= frames.length) {
                throw new IllegalStateException();
            }
            frames[begun] = v;
            begun++;
        }

        private int done() {
            if (begun <= 0 || begun > frames.length) {
                return NONE;
            }
            begun--;
            return frames[begun];
        }

        private void textStep(int op) {
            switch (op) {
                case LIT: literal(); break;
                case LINE: line(); break;
                case RAW: raw(); break;
                case TAG: tag(); break;
                case WRITE: writeTag(); break;
                case JUMP: pc = code(1); break;
                case UNLESS: pc = pop() == YES ? pc + 2 : code(1); break;
                case ENTER: push(mark); mark = writer.puts; pc++; break;
                case LEAVE: mark = pop(); pc++; break;
                case PART: region(); break;
                default: leave(); break;
            }
        }

        private void literal() {
            int from = code(1);
            int n = code(2);
            for (int i = 0; i < n; i++) {
                element = get(g.places, from + i);
                writer.put(getByte(g.pool, from + i));
            }
            pc += 3;
        }

        private void line() {
            element = code(1);
            if (code(2) == 0 || writer.puts != mark) {
                writer.put('\n');
            }
            mark = writer.puts;
            pc += 3;
        }

        private void raw() {
            element = code(1);
            int from = code(2);
            int n = code(3);
            for (int i = 0; i < n; i++) {
                writer.put(getByte(g.pool, from + i));
            }
            pc += 4;
        }

        private void tag() {
            element = code(1);
            int options = code(2);
            if (options == 0) {
                pc += 3;
                return;
            }
            push(NONE);
            push(NONE);
            push(0);
            push(NONE);
            push(NO);
            pc = options;
        }

        private void writeTag() {
            int v = pop();
            int next = code(3);
            boolean isAnchored = next != 0 && heap.isTrue(pop());
            int w = next != 0 ? pop() : NONE;
            int f = next != 0 ? pop() : 0;
            int o = next != 0 ? pop() : NONE;
            int s = next != 0 ? pop() : NONE;
            options();
            separator = s;
            ofNothing = o;
            format = f;
            wrap = w;
            if (code(2) > 0) {
                writer.indent(code(1), code(2));
            }
            if (isAnchored) {
                writer.anchor = writer.column;
            }
            pc = next != 0 ? next : pc + 4;
            write(v);
        }

        private void region() {
            element = code(1);
            int instance = heap.make(code(5), self, NONE);
            options();
            plain();
            if (code(3) > 0) {
                writer.indent(code(2), code(3));
            }
            pc = code(4);
            write(INSTANCE | instance);
        }

        /** Options, INDENTs and the ANCHOR are kept, to come back when what is begun is over. */
        private void options() {
            start(separator);
            start(ofNothing);
            start(format);
            start(wrap);
            start(writer.indentEnd);
            start(writer.anchor);
            start(OPTIONS);
        }

        private void optionsBack() {
            done();
            writer.anchor = done();
            writer.indentEnd = done();
            wrap = done();
            format = done();
            ofNothing = done();
            separator = done();
        }

        private void counted() {
            if (written >= 60000) {
                throw new IllegalStateException();
            }
            written++;
        }

        /** A value is WRITTEN with the options at hand: at once, or it is begun. */
        private void write(int value) {
            int v = value;
            counted();
            if (v == NONE) {
                if (ofNothing == NONE) {
                    return;
                }
                v = ofNothing;
                options();
                plain();
                counted();
            }
            if (heap.isMany(v) || Heap.sortOf(v) == DICTIONARY) {
                start(v);
                start(0);
                start(0);
                start(IN_LIST);
            } else if (Heap.sortOf(v) != INSTANCE) {
                start(v);
                start(BYTES_AHEAD);
            } else if (depth >= 30) {
                tell(7, element);
            } else {
                start(v);
                start(TEXT_AHEAD);
            }
        }

        private void goOn(int kind) {
            switch (kind) {
                case IN_LIST: listStep(); break;
                case OPTIONS: optionsBack(); break;
                case IN_WORD: wordOver(); break;
                case TEXT_AHEAD:
                    wrapLine();
                    enter();
                    break;
                default:
                    int v = get(frames, begun - 2);
                    begun -= 2;
                    if (heap.isHouse(v, BEAN)) {
                        teller.noteLook(v, NONE);
                    }
                    wrapLine();
                    heap.spell(v);
                    pour();
                    break;
            }
        }

        /** The next value of a LIST, or the separator ahead of it; its frame has the LIST, how
         * many were taken, and 1 if one was written, 2 more if the separator was. */
        private void listStep() {
            int i = get(frames, begun - 3);
            int state = get(frames, begun - 2);
            int list = get(frames, begun - 4);
            if (Heap.sortOf(list) == DICTIONARY) {
                list = heap.opened(list);
                set(frames, begun - 4, list);
            }
            if (i >= heap.countOf(list)) {
                begun -= 4;
                return;
            }
            int v = heap.valueOf(list, i);
            boolean isSome = v != NONE || ofNothing != NONE;
            if (isSome && state == 1 && separator != NONE) {
                set(frames, begun - 2, 3);
                int s = separator;
                options();
                plain();
                write(s);
                return;
            }
            set(frames, begun - 3, i + 1);
            set(frames, begun - 2, isSome || state != 0 ? 1 : 0);
            write(v);
        }

        /** The line is WRAPPED, if that is told and it may be. */
        private void wrapLine() {
            if (wrap == NONE || !writer.mayWrap()) {
                return;
            }
            int from = (wrap & REST) >>> 10;
            int n = wrap & 1023;
            for (int i = 0; i < n; i++) {
                int b = getByte(heap.words, from + i);
                writer.put(b);
                if (b == '\n') {
                    writer.atStart = false;
                    writer.margin();
                }
            }
        }

        private void enter() {
            int instance = get(frames, begun - 2) & REST;
            begun -= 2;
            start(self);
            start(pc);
            start(mark);
            start(element);
            start(IN_TEXT);
            depth++;
            self = instance;
            int text = get(heap.text, instance);
            pc = text + 3 + 2 * get(g.code, text + 2);
            mark = writer.puts;
        }

        private void leave() {
            done();
            element = done();
            mark = done();
            pc = done();
            self = done();
            depth--;
        }

        /** A value will be written for a WORD, on a WRITER of its own. */
        private void spellOut(int v) {
            start(writer.column);
            start(writer.atStart ? 1 : 0);
            start(writer.puts);
            start(writer.wordLength);
            start(writer.indentBase);
            start(writer.anchor);
            options();
            // The frame of the options is this one's, too: it only bears another kind.
            set(frames, begun - 1, IN_WORD);
            plain();
            writer.level++;
            writer.freshLine();
            write(v);
        }

        private void wordOver() {
            int v = heap.newWord(writer.words, writer.wordAt(), writer.wordLength);
            optionsBack();
            writer.level--;
            writer.anchor = done();
            writer.indentBase = done();
            writer.wordLength = done();
            writer.puts = done();
            writer.atStart = done() == 1;
            writer.column = done();
            push(v);
        }

        /** Puts out the bytes that were spelled, by the format. */
        private void pour() {
            int from = heap.from;
            int n = heap.length;
            byte[] in = heap.spelled;
            int i = 0;
            if (format >= BLANKS) {
                int pad = format >= ZEROS ? format - ZEROS : format - BLANKS;
                if (format >= ZEROS && n > 0 && getByte(in, from) == '-') {
                    writer.put('-');
                    i = 1;
                }
                for (int j = n; j < pad; j++) {
                    writer.put(format >= ZEROS ? '0' : ' ');
                }
            }
            while (i < n && !writer.isFull()) {
                int b = getByte(in, from + i);
                if (format == XML && (b == '&' || b == '<' || b == '>' || b == '"')) {
                    pourAll(b == '&' ? "&amp;" : b == '<' ? "&lt;" : b == '>' ? "&gt;" : "&quot;");
                } else if (format == URL && !isRow(b) && b != '-' && b != '.') {
                    writer.put('%');
                    writer.put(hex(b >>> 4));
                    writer.put(hex(b & 15));
                } else if ((format == UPPER || format == CAP && i == 0) && b >= 'a' && b <= 'z') {
                    writer.put(b - 32);
                } else if (format == LOWER && b >= 'A' && b <= 'Z') {
                    writer.put(b + 32);
                } else {
                    writer.put(b);
                }
                i++;
            }
        }

        private void pourAll(String s) {
            for (int i = 0; i < s.length(); i++) {
                writer.put(s.charAt(i));
            }
        }

        private static int hex(int n) {
            return n < 10 ? '0' + n : 'A' + n - 10;
        }

        private void valueStep(int op) {
            switch (op) {
                case PUSH: push(code(1)); pc += 2; break;
                case NAME: name(); break;
                case BLOCK: push(INSTANCE | heap.make(pc + 2, self, NONE)); pc = code(1); break;
                case ITEMS: items(); break;
                case CALL: push(INSTANCE | called(code(1), 3, UNGIVEN)); pc += 7; break;
                case CALLBY: calledBy(called(get(stack, top - code(2) - 1), 1, UNGIVEN)); break;
                case NAMED: pc += 4; break;
                case FIND: find(); break;
                case DOT: dot(); break;
                case DOTBY: dotBy(); break;
                case FUNCTION: push(function(code(1), heap.opened(pop()))); pc += 2; break;
                case SPELL: pc++; spellOut(pop()); break;
                case SPELLIF: spellIf(); break;
                case STRLEN: push(COUNT | pop() & 1023); pc++; break;
                default: push(trimmed(pop())); pc++; break;
            }
        }

        private void otherStep(int op) {
            switch (op) {
                case TEST: push(heap.isTrue(pop()) ? YES : NO); pc++; break;
                case NOT: push(pop() == YES ? NO : YES); pc++; break;
                case IFSO: shortcut(YES); break;
                case IFNOT: shortcut(NO); break;
                case APPLY: apply(); break;
                case SLOT: slot(); break;
                case NEXT: next(); break;
                case EACHSUB: eachSub(); break;
                case EACHCALL: collect(INSTANCE | called(code(1), 3, current())); break;
                case EACHBY: collect(INSTANCE | called(eachText(), 1, current())); break;
                case ZIP: zip(); break;
                case OPTION: option(); break;
                case FORMAT: format(); break;
                default: pc++; break;
            }
        }

        /** If the value on top says it all, what is right of it is left. */
        private void shortcut(int all) {
            if (get(stack, top - 1) == all) {
                pc = code(1);
            } else {
                pop();
                pc += 2;
            }
        }

        private void name() {
            int v = heap.named(self, code(1));
            if (v == UNGIVEN) {
                tell(1, code(2));
                v = NONE;
            }
            push(v);
            pc += 3;
        }

        private void items() {
            int n = code(1);
            int base = top - n;
            int all = 0;
            for (int i = 0; i < n; i++) {
                int v = get(stack, base + i);
                all += heap.isMany(v) ? heap.countOf(v) : 1;
            }
            int row = heap.newRow(all < 100 ? all : 100);
            all = 0;
            for (int i = 0; i < n; i++) {
                int v = get(stack, base + i);
                all = spread(row, all, v, heap.isMany(v), 100);
            }
            top = base;
            push(row);
            pc += 2;
        }

        /** NAME ( ARGS ), its place, how many ARGS, flags and the last NAMED being told from at
         * on: the INSTANCE, given a value first unless that is UNGIVEN. The ARGS are taken. */
        private int called(int text, int at, int value) {
            int place = code(at);
            int args = code(at + 1);
            int flags = code(at + 2);
            int named = code(at + 3);
            int params = get(g.code, text + 2);
            boolean isByName = (flags & BYNAME) != 0;
            int first = value != UNGIVEN && params > 0 ? 1 : 0;
            if (value != UNGIVEN && params == 0) {
                tell(3, place);
            }
            if (!isByName && args > params - first) {
                tell(3, place);
            }
            for (int i = args; isByName && i > 0; i--) {
                if (g.paramOf(text, get(g.code, named + 1)) == NONE) {
                    tell(3, place);
                }
                named = get(g.code, named + 3);
            }
            int instance = heap.make(text, self, UNGIVEN);
            if (first == 1) {
                set(heap.attrs, instance * PARAMS, value);
            }
            named = code(at + 3);
            for (int i = args - 1; i >= 0; i--) {
                int v = pop();
                int param = isByName ? g.paramOf(text, get(g.code, named + 1)) : i + first;
                if (param >= 0 && param < params) {
                    set(heap.attrs, instance * PARAMS + param, v);
                }
                named = isByName ? get(g.code, named + 3) : 0;
            }
            heap.fillIn(instance, (flags & DOTS) != 0, self);
            return instance;
        }

        /** This INSTANCE takes the place of its text. */
        private void calledBy(int instance) {
            pop();
            push(INSTANCE | instance);
            pc += 5;
        }

        /** The template of the name that was written, or ERROR 2. */
        private int templateBy(int word, int place) {
            int text = g.templateOf(heap.words, (word & REST) >>> 10, word & 1023);
            if (text == NONE) {
                tell(2, place);
            }
            return text;
        }

        private void find() {
            int text = templateBy(pop(), code(1));
            push(text);
            pc = text == NONE ? code(2) : pc + 3;
        }

        private void spellIf() {
            int v = pop();
            if (v != NONE) {
                pc += 4;
                spellOut(v);
                return;
            }
            if (code(1) > 0) {
                tell(code(1), code(2));
            }
            if (code(1) == 4) {
                pop();
            }
            push(NONE);
            pc = code(3);
        }

        private void dot() {
            int name = code(1);
            int v = pop();
            if (Heap.sortOf(v) == INSTANCE) {
                push(ofInstance(v, name, code(2)));
            } else {
                heap.spelled = g.names.bytes;
                heap.from = get(g.names.from, name);
                heap.length = g.names.lengthOf(name);
                push(heap.opened(dotted(v, CALLED | name, code(2))));
            }
            pc += 3;
        }

        private void dotBy() {
            int word = pop();
            int v = pop();
            heap.spell(word);
            if (Heap.sortOf(v) == INSTANCE) {
                int name = g.names.find(heap.words, heap.from, heap.length);
                push(ofInstance(v, name, code(1)));
            } else {
                push(heap.opened(dotted(v, word, code(1))));
            }
            pc += 2;
        }

        private int ofInstance(int v, int name, int place) {
            int own = name == NONE ? UNGIVEN : heap.ownOf(v & REST, name);
            if (own == UNGIVEN) {
                tell(4, place);
                return NONE;
            }
            return own;
        }

        /** What MEMBER . NAME is, the name being what was spelled; a DICTIONARY stands for the
         * LIST of its values. */
        private int dotted(int v, int word, int place) {
            if (heap.isHouse(v, MAP)) {
                return ofMap(v);
            }
            if (Heap.sortOf(v) == DICTIONARY) {
                return ofDictionary(v & REST, word);
            }
            int which = NONE;
            for (int s = 0; s < 4 && which == NONE && heap.isHouse(v, BEAN); s++) {
                which = heap.store.propertyOf(v, s, heap.spelled, heap.from, heap.length);
            }
            if (which == NONE) {
                tell(4, place);
                return NONE;
            }
            teller.noteLook(v, which);
            int value = get(heap.store.cells, v * Store.CELLS + 3 * which + 2);
            if (value == BREAKS) {
                tell(5, place);
            }
            return value == BREAKS ? NONE : value;
        }

        private boolean isSpelled(String s) {
            return isText(heap.spelled, heap.from, heap.length, s);
        }

        private int ofMap(int v) {
            int i = heap.store.keyOf(v, heap.spelled, heap.from, heap.length);
            if (i != NONE) {
                return get(heap.store.cells, v * Store.CELLS + i);
            }
            boolean isKeys = isSpelled("keys");
            if (!isKeys && !isSpelled("values")) {
                return NONE;
            }
            int n = heap.countOf(v);
            int row = heap.newRow(n);
            for (i = 0; i < n; i++) {
                heap.put(row, i, isKeys ? KEY | get(heap.store.cells, v * Store.CELLS + 50 + i)
                    : heap.valueOf(v, i));
            }
            return row;
        }

        private int ofDictionary(int at, int word) {
            int n = get(g.code, at + 2);
            for (int i = 0; i < n; i++) {
                int key = get(g.code, at + 4 + 2 * i);
                if ((key & 4095) == heap.length
                    && same(g.pool, (key & REST) >>> 12, heap.spelled, heap.from, heap.length)) {
                    return heap.content(get(g.code, at + 5 + 2 * i), key);
                }
            }
            int otherwise = get(g.code, at + 3);
            if (otherwise != BARE) {
                return heap.content(otherwise, word);
            }
            if (isSpelled("values")) {
                return DICTIONARY | at;
            }
            if (!isSpelled("keys")) {
                return NONE;
            }
            int row = heap.newRow(n);
            for (int i = 0; i < n; i++) {
                heap.put(row, i, get(g.code, at + 4 + 2 * i));
            }
            return row;
        }

        /** first, last, rest, trunc, strip, reverse, length of VALUES ONE BY ONE. */
        private int function(int which, int v) {
            int n = heap.countOf(v);
            switch (which) {
                case 0: return n > 0 ? heap.valueOf(v, 0) : NONE;
                case 1: return n > 0 ? heap.valueOf(v, n - 1) : NONE;
                case 2: return n < 2 ? NONE : slice(v, 1, n - 1);
                case 3: return n < 2 ? NONE : slice(v, 0, n - 1);
                case 4: return stripped(v, n);
                case 5: return reversed(v, n);
                default: return COUNT | n;
            }
        }

        private int slice(int v, int from, int n) {
            int row = heap.newRow(n);
            for (int i = 0; i < n; i++) {
                heap.put(row, i, heap.valueOf(v, from + i));
            }
            return row;
        }

        private int stripped(int v, int n) {
            int some = 0;
            for (int i = 0; i < n; i++) {
                some += heap.valueOf(v, i) != NONE ? 1 : 0;
            }
            int row = heap.newRow(some);
            some = 0;
            for (int i = 0; i < n; i++) {
                int one = heap.valueOf(v, i);
                if (one != NONE) {
                    heap.put(row, some, one);
                    some++;
                }
            }
            return row;
        }

        private int reversed(int v, int n) {
            int row = heap.newRow(n);
            for (int i = 0; i < n; i++) {
                heap.put(row, n - 1 - i, heap.valueOf(v, i));
            }
            return row;
        }

        private int trimmed(int word) {
            int from = (word & REST) >>> 10;
            int n = word & 1023;
            while (n > 0 && isBlank(getByte(heap.words, from + n - 1))) {
                n--;
            }
            while (n > 0 && isBlank(getByte(heap.words, from))) {
                from++;
                n--;
            }
            return MADE | from << 10 | n;
        }

        private static boolean isBlank(int b) {
            return b == ' ' || b == '\t' || b == '\n';
        }

        private void apply() {
            if (get(stack, top - 1) == NONE) {
                pc = code(2);
                return;
            }
            int v = pop();
            int base = top;
            push(loop);
            push(v);
            push(0);
            push(0);
            push(0);
            for (int i = 0; i < code(1); i++) {
                push(0);
            }
            loop = base;
            pc += 3;
        }

        /** What an APPLIED by name is: NONE for no template. */
        private void slot() {
            int word = pop();
            int text = word == NONE ? NONE : templateBy(word, code(2));
            set(stack, loop + SLOTS + code(1), text);
            pc += 3;
        }

        /** On to the APPLIED of the next value, or out of the loop. */
        private void next() {
            int kinds = code(1);
            int v = get(stack, loop + 1);
            int taken = get(stack, loop + 2);
            if (taken == 0) {
                v = heap.opened(v);
                set(stack, loop + 1, v);
                set(stack, loop + 3, heap.isMany(v) ? 1 : 0);
            }
            set(stack, loop + 4, pc);
            int n = heap.countOf(v);
            while (taken < n && kinds > 0) {
                int which = taken % kinds;
                boolean isNone = heap.valueOf(v, taken) == NONE;
                taken++;
                set(stack, loop + 2, taken);
                if (!isNone && get(stack, loop + SLOTS + which) != NONE) {
                    pc = code(3 + which);
                    return;
                }
                collect(NONE);
            }
            leaveLoop(n, kinds);
            pc = code(2);
        }

        private void leaveLoop(int n, int kinds) {
            int result = get(stack, loop + SLOTS + kinds);
            if (get(stack, loop + 3) == 1) {
                result = heap.room(n);
                for (int i = 0; i < n; i++) {
                    heap.put(result, i, get(stack, loop + SLOTS + kinds + i));
                }
            }
            top = loop;
            loop = get(stack, loop);
            push(result);
        }

        /** The value that the loop is at. */
        private int current() {
            return heap.valueOf(get(stack, loop + 1), get(stack, loop + 2) - 1);
        }

        /** What has come of a value joins the others; on to the next one. */
        private void collect(int v) {
            if (v != NONE) {
                set(heap.turn, v & REST, get(stack, loop + 2));
            }
            if (get(stack, loop + 3) == 1) {
                heap.counted(1);
            }
            push(v);
            pc = get(stack, loop + 4);
        }

        private void eachSub() {
            int text = pc + 1;
            int instance = heap.make(text, self, NONE);
            if (get(g.code, text + 2) > 0) {
                set(heap.attrs, instance * PARAMS, current());
            }
            collect(INSTANCE | instance);
        }

        /** The text of the APPLIED by name at hand. */
        private int eachText() {
            return get(stack, loop + SLOTS + code(5));
        }

        /** MEMBER, MEMBER .. : SUB */
        private void zip() {
            int members = code(1);
            int base = top - members;
            int n = 0;
            for (int i = 0; i < members; i++) {
                int v = heap.opened(get(stack, base + i));
                set(stack, base + i, v);
                n = Math.max(n, heap.countOf(v));
            }
            int row = heap.room(n);
            for (int j = 0; j < n; j++) {
                int instance = heap.make(pc + 3, self, NONE);
                for (int i = 0; i < members && i < PARAMS; i++) {
                    int v = get(stack, base + i);
                    int one = j < heap.countOf(v) ? heap.valueOf(v, j) : NONE;
                    set(heap.attrs, instance * PARAMS + i, one);
                }
                set(heap.turn, instance, j + 1);
                heap.counted(1);
                heap.put(row, j, INSTANCE | instance);
            }
            top = base;
            push(n == 0 ? NONE : row);
            pc = code(2);
        }

        /** An option's value goes to its place below: separator, null, format, wrap, anchor. */
        private void option() {
            int v = pop();
            set(stack, top - 5 + code(1), v);
            pc += 2;
        }

        private void format() {
            int v = pop();
            int place = code(1);
            pc += 2;
            if (v == NONE) {
                return;
            }
            heap.spell(v);
            int f = formatOf(heap.spelled, heap.from, heap.length);
            if (f == 0) {
                tell(9, place);
            }
            set(stack, top - 3, f);
        }

        /** 0 for one that is none. */
        private static int formatOf(byte[] b, int from, int n) {
            int tens = getByte(b, from) - '0';
            if (n < 1 || n > 2 || tens < 0 || tens > 9) {
                return wordIn(FORMATWORDS, b, from, n) + 1;
            }
            if (n == 1) {
                return tens == 0 ? ZEROS : BLANKS + tens;
            }
            int ones = getByte(b, from + 1) - '0';
            if (ones < 0 || ones > 9) {
                return 0;
            }
            return tens == 0 ? ZEROS + ones : BLANKS + 10 * tens + ones;
        }
    }
}
