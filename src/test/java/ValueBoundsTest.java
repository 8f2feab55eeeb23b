/** The bounds of VALUES and attributes: how many, which ones, and how many bytes (promises 7 to 18);
 * what is refused changes nothing. Each object is used for at most 512 calls, but for those in
 * manyInLists() and manyBytes(), whose bounds lie behind that. */
public final class ValueBoundsTest {
    private static final int LEAST = Integer.MIN_VALUE;
    private static final int MOST = Integer.MAX_VALUE;

    public static void main(String[] args) {
        for (int maker = 0; maker < 6; maker++) {
            fiveHundred(maker);
            whileMade(maker);
        }
        theLastValue();
        numbers();
        bytesOfWords();
        listSizes();
        listValues();
        mapSizes();
        mapKeys();
        mapValues();
        keysAgain();
        beanSizes();
        beanNames();
        beanSorts();
        beanValues();
        sortsInTurn();
        attributeNames();
        attributeValues();
        attributeCount();
        addedTwice();
        changesWhileMade();
        manyInLists();
        manyBytes();
        House.over();
    }

    private static int made(House h, int maker) {
        switch (maker) {
            case 0: return h.x.truth(false);
            case 1: return h.x.number(7);
            case 2: return h.word("w");
            case 3: return h.x.list();
            case 4: return h.x.map();
            default: return h.bean("b");
        }
    }

    /** "at most 500": the 500th one, and the 501st. */
    private static void fiveHundred(int maker) {
        House h = new House();
        House.due("the first number of maker " + maker, made(h, maker), 0);
        for (int i = 1; i < 499; i++) {
            h.x.truth(true);
        }
        int bytes = h.x.look(8);
        House.due("the 500th value by maker " + maker, made(h, maker), 499);
        House.due("bytes", h.x.look(8), 2 * bytes);
        House.due("the 501st", made(h, maker), -1);
        House.due("500 values", h.x.look(1), 500);
        House.due("nothing was taken", h.x.look(8), 2 * bytes);
        House.due("the tape is empty", h.x.end(0), 0);
    }

    private static void whileMade(int maker) {
        House h = new House();
        h.load(0);
        h.file(1, "main() ::= \"x\"");
        h.load(1);
        h.begin("main");
        House.due("maker " + maker + " while a text is being made", made(h, maker), -1);
        House.due("the tape is empty", h.x.end(0), 0);
        House.due("no value", h.x.look(1) + " " + h.x.look(8), "0 0");
        h.run(1);
        House.due("it goes on", made(h, maker), -1);
        h.run(1);
        House.due("it is over", made(h, maker), 0);
        h.begin("main");
        House.due("another one", made(h, maker), -1);
        h.x.stop();
        House.due("stopped", made(h, maker), 1);
    }

    /** The 500th value, as it is written: the 512th call goes on for a byte of it. */
    private static void theLastValue() {
        for (int maker : new int[] {1, 2, 3, 5}) {
            TemplateHouse x = new TemplateHouse();
            for (int i = 0; i < 499; i++) {
                x.truth(true);
            }
            if (maker == 2 || maker == 5) {
                x.end(1);
            }
            int v = maker == 1 ? x.number(7) : maker == 2 ? x.word() : maker == 3 ? x.list() : x.bean();
            if (maker == 3) {
                House.due("the 500th value has a value", x.add(v, 498), true);
            }
            x.feed(0x61000000, 0, 0, 0, 0);
            x.end(1);
            x.attribute(v);
            x.feed(0x6d286129, 0x3a3a3d22, 0x3c613e22, 0, 0);
            x.end(12);
            x.file(0);
            x.load(0);
            x.feed(0x6d000000, 0, 0, 0, 0);
            x.end(1);
            x.begin();
            House.due("the 500th value of maker " + maker, x.run(1), 0);
        }
    }

    private static void numbers() {
        long[] all = {0, 1, -1, 9, 10, -10, Long.MAX_VALUE, Long.MIN_VALUE, Long.MIN_VALUE + 1, 1L << 32, -(1L << 31)};
        House h = new House();
        StringBuilder due = new StringBuilder();
        int[] values = new int[all.length];
        for (int i = 0; i < all.length; i++) {
            values[i] = h.x.number(all[i]);
            due.append(i == 0 ? "" : ",").append(all[i]);
        }
        h.attribute("l", h.list(values));
        h.is("main(l) ::= \"<l; separator=','>\"", due.toString(), "");
    }

    private static void bytesOfWords() {
        House h = new House();
        StringBuilder s = new StringBuilder();
        for (int i = 0; i < 256; i++) {
            s.append((char) i);
        }
        h.attribute("w", h.word(s.toString()));
        House.due("each byte", h.main("main(w) ::= \"<w>\""), s);
        House.due("look(8)", h.x.look(8), 256);
        h = new House();
        h.attribute("w", h.x.word()).attribute("w", h.bean(""));
        h.is("main(w) ::= \"<w; separator='-'>\"", "-", "");
    }

    // ---- Promise 13

    private static void listSizes() {
        House h = new House();
        h.x.truth(true);
        int l = h.x.list();
        for (int i = 1; i <= 100; i++) {
            House.due("value " + i + " of a LIST", h.x.add(l, i % 2 - 1), true);
        }
        House.due("the 101st", h.x.add(l, 0), false);
        House.due("the 101st, NOTHING", h.x.add(l, -1), false);
        h.attribute("l", l);
        h.is("main(l) ::= \"<length(l)><length(strip(l))>\"", "10050", "");
    }

    private static void listValues() {
        House h = new House();
        int b = h.bean("b");
        int low = h.x.list();
        int l = h.x.list();
        int high = h.x.list();
        int late = h.bean("late");
        int[] may = {-1, b, low, late};
        int[] not = {LEAST, -3, -2, l, high, 5, 499, 500, MOST};
        for (int v : may) {
            House.due("a LIST may have " + v, h.x.add(l, v), true);
        }
        for (int v : not) {
            House.due("a LIST can't have " + v, h.x.add(l, v), false);
        }
        for (int none : new int[] {LEAST, -1, b, late, 5, 500, MOST}) {
            House.due("no LIST " + none, h.x.add(none, -1), false);
        }
        h.attribute("l", l);
        h.is("main(l) ::= \"<length(l)>\"", "4", "");
    }

    // ---- Promise 14

    private static void mapSizes() {
        House h = new House();
        int v = h.x.number(5);
        int m = h.x.map();
        for (int i = 0; i < 50; i++) {
            House.due("KEY " + i, h.entry(m, "k" + i, v), true);
        }
        House.due("the 51st", h.entry(m, "z", v), false);
        House.due("nothing was taken", h.x.look(8), 140);
        House.due("one of the 50 once more", h.entry(m, "k49", -1) + " " + h.entry(m, "k0", -1), "true true");
        House.due("nothing was taken", h.x.look(8), 140);
        h.attribute("m", m);
        h.is("main(m) ::= \"<length(m)><length(strip(m))><m.z><m.k1>\"", "50485", "");
    }

    private static void mapKeys() {
        House h = new House();
        int m = h.x.map();
        House.due("no bytes", h.entry(m, "", -1), false);
        House.due("a byte", h.entry(m, "\0", -1), true);
        House.due("20 bytes", h.entry(m, "12345678901234567890", -1), true);
        House.due("21 bytes", h.entry(m, "123456789012345678901", -1), false);
        House.due("22 of two end()s", h.entry(m, "a".repeat(40), -1), false);
        House.due("the tape is empty", h.x.end(0), 0);
        House.due("19 bytes are another one", h.entry(m, "1234567890123456789", -1), true);
        House.due("bytes", h.x.look(8), 40);
        h.attribute("m", m);
        h.is("main(m) ::= \"<length(m)><m.keys; separator='|'>\"", "3\0|12345678901234567890|1234567890123456789", "");
    }

    private static void mapValues() {
        House h = new House();
        int b = h.bean("b");
        int low = h.x.map();
        int m = h.x.map();
        int high = h.x.map();
        int late = h.bean("late");
        for (int v : new int[] {-1, b, low, late}) {
            House.due("a MAP may have " + v, h.entry(m, "k" + (v + 1), v), true);
        }
        for (int v : new int[] {LEAST, -3, -2, m, high, 5, 499, 500, MOST}) {
            House.due("a MAP can't have " + v, h.entry(m, "n", v), false);
            House.due("the tape is empty", h.x.end(0), 0);
        }
        for (int none : new int[] {LEAST, -1, b, late, 5, 500, MOST}) {
            House.due("no MAP " + none, h.entry(none, "k", -1), false);
            House.due("the tape is empty", h.x.end(0), 0);
        }
        House.due("a KEY that is there keeps its value", h.entry(m, "k1", m), false);
        h.attribute("m", m);
        h.is("main(m) ::= \"<length(m)><m.k1>\"", "4b", "");
    }

    private static void keysAgain() {
        House h = new House();
        int a = h.word("a");
        int b = h.word("b");
        int m = h.x.map();
        h.entry(m, "x", a);
        h.entry(m, "y", a);
        h.entry(m, "x", b);
        h.entry(m, "X", -1);
        h.attribute("m", m);
        h.is("main(m) ::= \"<m.keys><m; separator=',', null='-'>\"", "xyXb,a,-", "");
        House.due("bytes", h.x.look(8), 5);
    }

    // ---- Promise 15

    private static void beanSizes() {
        House h = new House();
        int b = h.bean("B");
        for (int i = 0; i < 12; i++) {
            House.due("PROPERTY " + i, h.property(b, "p" + i / 4, i % 4, -1), true);
        }
        House.due("the 13th", h.property(b, "q", 0, -1), false);
        House.due("nothing was taken", h.x.look(8), 25);
        h.attribute("b", b);
        h.main("main(b) ::= \"<b.p0><b.p2><b.q>\"");
        House.due("which are there", h.looks() + " " + h.errors(), "0.0 0.8 4@0:27");
    }

    private static void beanNames() {
        House h = new House();
        int b = h.bean("");
        House.due("no bytes", h.property(b, "", 0, -1), false);
        House.due("a byte", h.property(b, "p", 0, -1), true);
        House.due("16 bytes", h.property(b, "abcdefghijklmnop", 0, -1), true);
        House.due("17 bytes", h.property(b, "abcdefghijklmnopq", 0, -1), false);
        House.due("the tape is empty", h.x.end(0), 0);
        House.due("bytes", h.x.look(8), 17);
        h.attribute("b", b);
        h.is("main(b) ::= \"<b.p><b.abcdefghijklmnop><b~1.abcdefghijklmno><b~2.('abcdefghijklmnopq')>\"", "", "4@1 4@2");
        House.due("looks", h.looks(), "0.0 0.1");
    }

    private static void beanSorts() {
        House h = new House();
        int b = h.bean("");
        for (int sort : new int[] {LEAST, -1, 4, MOST}) {
            House.due("sort " + sort, h.property(b, "p", sort, -1), false);
            House.due("the tape is empty", h.x.end(0), 0);
        }
        for (int sort = 3; sort >= 0; sort--) {
            House.due("sort " + sort, h.property(b, "p", sort, -1), true);
        }
        for (int sort = 0; sort < 4; sort++) {
            House.due("twice", h.property(b, "p", sort, -1), false);
        }
        House.due("another name", h.property(b, "P", 0, -1), true);
        House.due("bytes", h.x.look(8), 5);
    }

    private static void beanValues() {
        House h = new House();
        int b = h.bean("");
        int last = h.x.list();
        House.due("the last value", h.property(b, "a", 0, last), true);
        House.due("itself", h.property(b, "b", 0, b), true);
        House.due("NOTHING", h.property(b, "c", 0, -1), true);
        House.due("one that BREAKS", h.property(b, "d", 0, -2), true);
        for (int v : new int[] {LEAST, -3, 2, 499, 500, MOST}) {
            House.due("no value " + v, h.property(b, "e", 0, v), false);
        }
        for (int none : new int[] {LEAST, -1, last, 2, 500, MOST}) {
            House.due("no BEAN " + none, h.property(none, "e", 0, -1), false);
            House.due("the tape is empty", h.x.end(0), 0);
        }
        House.due("bytes", h.x.look(8), 4);
        h.attribute("b", b);
        h.is("main(b) ::= \"<b.b.b.c><if(b.a)>1<endif><b~1.d><b~2.e>\"", "", "5@1 4@2");
        House.due("looks", h.looks(), "0.1 0.1 0.2 0.0 0.3");
    }

    /** "by get, is, has, field": the first one of these that it has. */
    private static void sortsInTurn() {
        for (int first = 0; first < 4; first++) {
            House h = new House();
            int b = h.bean("");
            for (int sort = 3; sort >= first; sort--) {
                h.property(b, "p", sort, h.x.number(sort));
            }
            h.attribute("b", b);
            h.is("main(b) ::= \"<b.p>\"", "" + first, "");
            House.due("look", h.looks(), "0." + (3 - first));
        }
    }

    // ---- Promises 16 and 17

    private static void attributeNames() {
        House h = new House();
        int v = h.x.number(1);
        House.due("no bytes", h.x.attribute(v), -1);
        House.due("a byte", h.tape("a").x.attribute(v), 1);
        House.due("16 bytes", h.tape("abcdefghijklmnop").x.attribute(v), 2);
        House.due("17 bytes", h.tape("abcdefghijklmnopq").x.attribute(v), -1);
        House.due("the tape is empty", h.x.end(0), 0);
        House.due("any bytes", h.tape("\0 \u00ff").x.attribute(v), 3);
        House.due("two", h.x.look(2), 3);
        h.is("main(abcdefghijklmnop) ::= \"<abcdefghijklmnop><a><~1abcdefghijklmno>\"", "11", "1@1");
    }

    private static void attributeValues() {
        House h = new House();
        House.due("no value 0", h.tape("a").x.attribute(0), -1);
        h.x.list();
        h.x.map();
        for (int v : new int[] {LEAST, -2, 2, 499, 500, MOST}) {
            House.due("no value " + v, h.tape("a").x.attribute(v), -1);
            House.due("the tape is empty", h.x.end(0), 0);
        }
        for (int v = -1; v < 2; v++) {
            House.due("value " + v, h.tape("a").x.attribute(v), v + 2);
        }
    }

    private static void attributeCount() {
        House h = new House();
        int v = h.x.number(1);
        for (int i = 1; i <= 40; i++) {
            House.due("attribute " + i, h.tape("a" + i % 2).x.attribute(v), i);
        }
        House.due("the 41st", h.tape("b").x.attribute(v), -1);
        House.due("the tape is empty", h.x.end(0), 0);
        House.due("40", h.x.look(2), 40);
        h.is("main(a0,a1,b=\"none\") ::= \"<length(a0)> <length(a1)> <b>\"", "20 20 none", "");
        House.due("clear", h.x.clear() + " " + h.x.look(2), "true 0");
        House.due("clear again", h.x.clear(), true);
        h.is("main(a0=\"none\") ::= \"<a0>\"", "none", "");
        House.due("the first one", h.tape("b").x.attribute(v), 1);
    }

    /** "what was added twice or more: the LIST of these, LISTs, not MAPs, among them value by value". */
    private static void addedTwice() {
        House h = new House();
        int one = h.x.number(1);
        int none = h.x.list();
        int map = h.x.map();
        h.entry(map, "k", one);
        int[] hundred = new int[100];
        java.util.Arrays.fill(hundred, one);
        int list = h.list(hundred);
        h.attribute("once", list).attribute("never", -1).attribute("empty", none).attribute("empty", none);
        h.attribute("one", none).attribute("one", one).attribute("two", -1).attribute("two", -1);
        h.attribute("map", map).attribute("map", map).attribute("many", list).attribute("many", list);
        h.is("main(once,never,empty,one,two,map,many) ::= \"<length(once)> <length(never)> <length(empty)> "
            + "<length(one)> <length(two)> <length(map)> <length(many)>\"", "100 0 0 1 2 2 200", "");
    }

    // ---- While a text is being made

    private static void changesWhileMade() {
        House h = new House();
        int l = h.x.list();
        int m = h.x.map();
        int b = h.bean("");
        h.attribute("a", l);
        h.file(0, "main(a) ::= \"x<length(a)>\"");
        h.load(0);
        h.begin("main");
        String refused = h.x.add(l, b) + " " + h.entry(m, "k", b) + " " + h.property(b, "p", 0, b) + " "
            + h.tape("a").x.attribute(b) + " " + h.x.clear();
        House.due("refused", refused, "false false false -1 false");
        House.due("the tape is empty", h.x.end(0), 0);
        h.run(2);
        House.due("nothing has changed", h.x.look(2) + " " + h.x.look(8), "1 0");
        House.due("it goes on", h.x.clear(), false);
        h.run(1);
        House.due("nothing has changed", h.bytes(), "x0");
        String done = h.x.add(l, b) + " " + h.entry(m, "k", b) + " " + h.property(b, "p", 0, b) + " "
            + h.tape("a").x.attribute(b) + " " + h.x.clear();
        House.due("it is over", done, "true true true 2 true");
    }

    // ---- Bounds that lie behind 512 calls

    /** "All LISTs together have at most 4000 values". */
    private static void manyInLists() {
        House h = new House();
        for (int i = 0; i < 41; i++) {
            h.x.list();
        }
        for (int i = 0; i < 3999; i++) {
            h.x.add(i / 100, -1);
        }
        House.due("the 4000th", h.x.add(40, -1), true);
        House.due("the 4001st", h.x.add(39, -1) + " " + h.x.add(40, -1), "false false");
    }

    private static House filled(int bytes) {
        House h = new House();
        for (int left = bytes; left > 0; left -= Math.min(left, 4000)) {
            for (int n = Math.min(left, 4000); n > 0; n -= Math.min(n, 20)) {
                h.x.end(Math.min(n, 20));
            }
            h.x.word();
        }
        House.due("filled", h.x.look(8), bytes);
        return h;
    }

    /** "all WORDs, KEYS and names 16000 bytes": of a WORD, a BEAN, a KEY, a name. */
    private static void manyBytes() {
        House h = filled(15997);
        House.due("a WORD too long", h.word("1234") + " " + h.x.look(1), "-1 4");
        House.due("a BEAN too long", h.bean("1234") + " " + h.x.look(1), "-1 4");
        House.due("a WORD", h.word("123") + " " + h.x.look(8), "4 16000");
        House.due("one without bytes", h.x.word() + " " + h.bean("") + " " + h.bean("a"), "5 6 -1");
        House.due("what has no bytes", h.x.truth(true) + " " + h.x.number(1) + " " + h.x.list() + " " + h.x.map(), "7 8 9 10");
        House.due("16000 bytes", h.x.look(8), 16000);
        h = filled(15996);
        House.due("a BEAN", h.bean("123") + " " + h.x.look(8), "4 15999");
        int m = h.x.map();
        House.due("a KEY too long", h.entry(m, "ab", 0), false);
        House.due("a name too long", h.property(4, "ab", 0, 0), false);
        House.due("a KEY", h.entry(m, "a", 0) + " " + h.x.look(8), "true 16000");
        House.due("another one", h.entry(m, "b", 0), false);
        House.due("the same one", h.entry(m, "a", 1) + " " + h.x.look(8), "true 16000");
        h = filled(15984);
        int b = h.bean("");
        House.due("a name", h.property(b, "abcdefghijklmnop", 0, 0) + " " + h.x.look(8), "true 16000");
        House.due("another one", h.property(b, "a", 0, 0) + " " + h.x.look(8), "false 16000");
    }
}
