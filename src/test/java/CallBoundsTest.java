/** The bounds of each call of the face: the last argument that is allowed, the first one that is
 * not, what is refused, and that what is refused changes nothing (promises 1 to 25). Each object is
 * used for at most 512 calls. */
public final class CallBoundsTest {
    private static final int LEAST = Integer.MIN_VALUE;
    private static final int MOST = Integer.MAX_VALUE;

    public static void main(String[] args) {
        newObject();
        newObjectsFiles();
        feed();
        end();
        endAtTheTapesEnd();
        fileNumbers();
        fileBytes();
        fileSizes();
        load();
        fault();
        beginRefused();
        beginNames();
        runArguments();
        runToTheEnd();
        runEnded();
        stop();
        byteOf();
        error();
        errorsKept();
        looked();
        looksKept();
        look();
        width();
        House.over();
    }

    // ---- Promise 1

    private static void newObject() {
        House h = new House();
        House.due("the tape is empty", h.x.end(0), 0);
        House.due("no values", h.x.look(1), 0);
        House.due("no value 0 to add", h.tape("a").x.attribute(0), -1);
        House.due("no attributes", h.x.look(2), 0);
        House.due("no GENERATION", h.begin("main"), "ISE");
        h.is("main() ::= \"<['abc', 'd']; wrap>\"", "abcd", "");
        House.due("the tape was empty: no such template", h.begin(""), "NSEE");
    }

    private static void newObjectsFiles() {
        for (int k = 0; k < 8; k++) {
            House h = new House();
            int other = (k + 1) % 8;
            h.file(other, "import " + k);
            House.due("file " + k + " is empty", h.load(other), "5@" + other + ":7");
            House.due("and loads", h.load(k), "0");
        }
    }

    // ---- Promises 2 and 3

    private static String word(House h, int v) {
        h.attribute("a", v);
        return h.main("main(a) ::= \"<a>\"");
    }

    private static void feed() {
        House h = new House();
        House.due("twenty bytes that are 0 at first", h.x.end(20), 20);
        House.due("a WORD of these", word(h, h.x.word()), "\0".repeat(20));
        h = new House();
        h.x.feed(MOST, LEAST, -1, 0x01020304, 0xf0e0d0c0);
        h.x.end(20);
        House.due("the highest byte of each first", word(h, h.x.word()),
            "\u007f\u00ff\u00ff\u00ff\u0080\0\0\0\u00ff\u00ff\u00ff\u00ff\1\2\3\4\u00f0\u00e0\u00d0\u00c0");
        h = new House();
        h.x.feed(-1, -1, -1, -1, -1);
        h.x.feed(0x61620000, 0, 0, 0, 0x7a);
        h.x.end(20);
        House.due("a second feed() puts all twenty", word(h, h.x.word()), "ab" + "\0".repeat(17) + "z");
        h = new House();
        h.x.feed(0x61626364, 0x65666768, 0x696a6b6c, 0x6d6e6f70, 0x71727374);
        h.x.end(4);
        h.x.end(4);
        House.due("0 behind an end() that answers a number", word(h, h.x.word()), "abcd\0\0\0\0");
    }

    private static void end() {
        House h = new House();
        h.x.feed(0x61626364, 0x65666768, 0x696a6b6c, 0x6d6e6f70, 0x71727374);
        for (int n : new int[] {-1, 21, LEAST, MOST}) {
            House.due("end(" + n + ")", h.x.end(n), -1);
        }
        House.due("end(20): all were still ready", h.x.end(20), 20);
        House.due("the bytes", word(h, h.x.word()), "abcdefghijklmnopqrst");
        h = new House();
        h.x.feed(0x61626364, 0, 0, 0, 0);
        House.due("end(0)", h.x.end(0), 0);
        House.due("end(1) behind end(0), which answered a number", h.x.end(1), 1);
        House.due("a 0", word(h, h.x.word()), "\0");
    }

    private static void endAtTheTapesEnd() {
        House h = new House();
        for (int i = 0; i < 199; i++) {
            h.x.end(20);
        }
        House.due("end(19)", h.x.end(19), 3999);
        h.x.feed(0x7a797877, 0, 0, 0, 0);
        House.due("4001 bytes", h.x.end(2), -1);
        House.due("4019 bytes", h.x.end(20), -1);
        House.due("nothing came", h.x.end(0), 3999);
        h.x.feed(0x7a797877, 0, 0, 0, 0);
        House.due("4001 bytes", h.x.end(2), -1);
        House.due("4000 bytes", h.x.end(1), 4000);
        House.due("one more", h.x.end(1), -1);
        House.due("none more", h.x.end(0), 4000);
        int v = h.x.word();
        h.attribute("a", v);
        h.file(0, "main(a) ::= \"<a>\"");
        h.load(0);
        h.begin("main");
        h.run(4000);
        House.due("its last byte was still ready", h.x.byteOf(3998) + " " + h.x.byteOf(3999), "0 122");
        House.due("4000 bytes of a WORD", h.x.look(8), 4000);
    }

    // ---- Promise 4

    private static void fileNumbers() {
        for (int k : new int[] {-1, 8, LEAST, MOST}) {
            House h = new House();
            House.due("file(" + k + ")", h.tape("main() ::= \"\"").x.file(k), false);
            House.due("the tape is empty", h.x.end(0), 0);
        }
        House h = new House();
        for (int k = 0; k < 8; k++) {
            h.file(k, "a() ::= \"" + k + "\" b ::= a main() ::= \"<a()>\"");
            House.due("the tape is empty", h.x.end(0), 0);
        }
        for (int k = 0; k < 8; k += 7) {
            House.due("load(" + k + ")", h.load(k), "3");
            House.due("its text", h.text("main"), k);
        }
    }

    private static void fileBytes() {
        for (int b = 0; b < 256; b++) {
            House h = new House();
            h.file(1, "main() ::= \"old\"");
            boolean may = b == 9 || b == 10 || b >= 32 && b <= 126;
            House.due("byte " + b, h.tape("main() ::= <%" + (char) b + ".%>").x.file(1), may);
            House.due("the tape is empty", h.x.end(0), 0);
            if (!may) {
                h.load(1);
                House.due("the file is as it was", h.text("main"), "old");
            }
        }
        House h = new House();
        House.due("such a byte first", h.tape("\u001f ").x.file(0), false);
        House.due("such a byte last", h.tape(" \u007f").x.file(0), false);
    }

    private static void fileSizes() {
        House h = new House();
        String s = "main() ::= \"a\"";
        h.file(0, s + " ".repeat(3999 - s.length()) + "/");
        House.due("4000 bytes", h.load(0), "1@0:3999");
        House.due("an empty tape is an empty file", h.x.file(0), true);
        House.due("without a FAULT", h.load(0), "0");
        House.due("a byte alone", h.tape(" ").x.file(0), true);
        h.file(1, "import 0");
        House.due("is no empty file", h.load(1), "0");
    }

    // ---- Promises 5 and 6

    private static void load() {
        House h = new House();
        h.file(7, "a() ::= \"7\" b ::= a c() ::= \"\" d ::= [default:true]");
        House.due("load(7)", h.load(7), "3");
        for (int k : new int[] {-1, 8, LEAST, MOST}) {
            House.due("load(" + k + ")", h.load(k), "0@-1:-1");
        }
        h.file(0, "(");
        House.due("a FAULT", h.load(0), "1@0:0");
        House.due("the GENERATION stays", h.x.look(0), 1);
        House.due("that of file 7", h.text("b"), "7");
        House.due("load(8) behind a FAULT: FAULT 0", h.load(8), "0@-1:-1");
        h.load(0);
        House.due("a new one", h.load(7), "3");
        House.due("no FAULT", h.x.fault(0) + " " + h.x.fault(1) + " " + h.x.fault(2), "0 -1 -1");
        House.due("two GENERATIONS", h.x.look(0), 2);
        House.due("of an empty file", h.load(1), "0");
        House.due("which has no template", h.begin("a"), "NSEE");
        House.due("three GENERATIONS", h.x.look(0), 3);
    }

    private static void fault() {
        House h = new House();
        for (int what : new int[] {LEAST, -1, 0, 1, 2, 3, MOST}) {
            House.due("fault(" + what + ") ahead of any", h.x.fault(what), what == 0 ? 0 : -1);
        }
        h.file(3, "\n\n )");
        h.load(3);
        int[] due = {1, 3, 3};
        for (int what : new int[] {LEAST, -1, 0, 1, 2, 3, MOST}) {
            House.due("fault(" + what + ")", h.x.fault(what), what >= 0 && what < 3 ? due[what] : -1);
        }
    }

    // ---- Promise 19

    private static void beginRefused() {
        House h = new House();
        House.due("no GENERATION, and no such template", h.begin("zz"), "ISE");
        House.due("the tape is empty", h.x.end(0), 0);
        h.file(0, "main(a) ::= \"<a><zz>bc\" t() ::= \"t\"");
        h.load(0);
        h.begin("main");
        h.run(1);
        House.due("one is being made, and no such template", h.begin("zz"), "ISE");
        House.due("the tape is empty", h.x.end(0), 0);
        House.due("one is being made", h.begin("t"), "ISE");
        House.due("it goes on", h.run(1) + h.bytes() + h.errors() + h.x.look(7), "0bc1@0:17" + "1");
        House.due("it is over", h.run(1), "1");
        House.due("no such template", h.begin("zz"), "NSEE");
        House.due("the tape is empty", h.x.end(0), 0);
        House.due("the latest text is that one", h.bytes() + h.errors() + h.x.look(7), "bc1@0:17" + "2");
        House.due("begin", h.begin("t"), "");
        House.due("the tape is empty", h.x.end(0), 0);
        House.due("nothing of it is there", h.bytes() + h.errors() + h.looks() + h.x.look(7), "1");
    }

    private static void beginNames() {
        House h = new House();
        h.file(0, "abcdefghijklmnop() ::= \"<@r()>16\" a ::= abcdefghijklmnop d ::= [default:true] "
            + "@abcdefghijklmnop.r() ::= \"r\" aa ::= a");
        House.due("TEMPLATEs and ALIASES", h.load(0), "3");
        House.due("16 bytes", h.text("abcdefghijklmnop"), "r16");
        House.due("17 bytes", h.begin("abcdefghijklmnopq"), "NSEE");
        House.due("15 bytes", h.begin("abcdefghijklmno"), "NSEE");
        House.due("an ALIAS", h.text("a"), "r16");
        House.due("an ALIAS of an ALIAS", h.text("aa"), "r16");
        for (String s : new String[] {"", "d", "r", "A", "a ", " a", "a\0", "aaa"}) {
            House.due("no template: " + s, h.begin(s), "NSEE");
        }
        House h2 = new House();
        for (int i = 0; i < 200; i++) {
            h2.x.end(20);
        }
        h2.load(0);
        String e = "";
        try {
            h2.x.begin();
        } catch (java.util.NoSuchElementException x) {
            e = "NSEE";
        }
        House.due("4000 bytes", e, "NSEE");
        House.due("the tape is empty", h2.x.end(0), 0);
    }

    // ---- Promises 20 and 21

    private static void runArguments() {
        House h = new House();
        for (int n : new int[] {LEAST, -1, 0, 12001, MOST}) {
            House.due("run(" + n + "), none being made", h.run(n), "IAE");
        }
        House.due("run(1), none being made", h.run(1), "ISE");
        House.due("run(12000), none being made", h.run(12000), "ISE");
        h.file(0, "main() ::= \"ab\"");
        h.load(0);
        h.begin("main");
        for (int n : new int[] {LEAST, -1, 0, 12001, MOST}) {
            House.due("run(" + n + ")", h.run(n), "IAE");
        }
        House.due("nothing went on", h.x.look(3) + " " + h.x.look(7), "0 1");
        House.due("run(1)", h.run(1), "0");
        House.due("run(12000)", h.run(12000), "1");
        House.due("run(1), it being over", h.run(1), "ISE");
        House.due("run(0), it being over", h.run(0), "IAE");
    }

    private static void runToTheEnd() {
        House h = new House();
        h.file(0, "main() ::= \"abc<zz>\" e() ::= \"\" f() ::= \"<zz>\"");
        h.load(0);
        h.begin("main");
        House.due("just all bytes: it goes on", h.run(3) + " " + h.x.look(7) + " " + h.bytes(), "0 1 abc");
        House.due("nothing behind them came", h.x.look(4), 0);
        House.due("it is over", h.run(1) + " " + h.x.look(7) + " " + h.bytes(), "1 2 abc");
        House.due("all ERRORS", h.x.look(4), 1);
        h.begin("main");
        House.due("one more than all bytes", h.run(4) + " " + h.x.look(7) + " " + h.x.look(4), "1 2 1");
        h.begin("e");
        House.due("an empty text", h.run(1) + " " + h.x.look(7) + " " + h.x.look(3), "1 2 0");
        h.begin("f");
        House.due("an ERROR alone", h.x.look(4) + " " + h.run(1) + " " + h.x.look(4), "0 1 1");
    }

    private static void runEnded() {
        House h = new House();
        h.attribute("w", h.word("w".repeat(1200)));
        h.file(0, "main(w) ::= \"<[w,w,w,w,w,w,w,w,w,w]; separator=''>a\" t() ::= \"t\"");
        h.load(0);
        h.begin("main");
        House.due("12000 bytes", h.run(12000) + " " + h.x.look(7) + " " + h.x.look(4), "0 1 0");
        House.due("ENDED", h.run(1) + " " + h.x.look(7) + " " + h.x.look(4), "2 3 1");
        House.due("the text ends as it is", h.x.look(3) + " " + h.x.byteOf(11999) + " " + h.x.byteOf(12000), "12000 119 -1");
        House.due("none is being made", h.run(1) + " " + h.x.stop(), "ISE false");
        House.due("another one", h.text("t"), "t");
    }

    private static void stop() {
        House h = new House();
        House.due("none is being made", h.x.stop(), false);
        h.file(0, "main(b) ::= \"<b><zz>c<zz>d\"");
        h.attribute("b", h.bean("B"));
        h.load(0);
        h.begin("main");
        House.due("at once", h.x.stop() + " " + h.x.look(7) + " " + h.x.look(3), "true 4 0");
        House.due("no ERROR, no LOOK", h.x.look(4) + " " + h.x.look(5) + " " + h.x.look(6), "0 0 1");
        House.due("twice", h.x.stop() + " " + h.x.look(7), "false 4");
        h.begin("main");
        h.run(2);
        House.due("on the way", h.x.stop(), true);
        House.due("what is there stays", h.bytes() + h.errors() + h.looks() + h.x.look(3), "Bc1@0:17" + "0.-12");
        House.due("run", h.run(1) + h.run(0), "ISEIAE");
        h.begin("main");
        h.run(4);
        House.due("it is over", h.x.stop() + " " + h.x.look(7), "false 2");
    }

    // ---- Promises 22 to 25

    private static void byteOf() {
        House h = new House();
        House.due("none was begun", h.x.byteOf(0), -1);
        h.attribute("w", h.word("\0\u00ff\u0080"));
        h.file(0, "main(w) ::= \"<w>\"");
        h.load(0);
        h.begin("main");
        House.due("nothing is there", h.x.byteOf(0), -1);
        h.run(2);
        for (int i : new int[] {LEAST, -1, 2, 3, MOST}) {
            House.due("byteOf(" + i + ")", h.x.byteOf(i), -1);
        }
        House.due("0 .. 255", h.x.byteOf(0) + " " + h.x.byteOf(1), "0 255");
        h.run(2);
        House.due("the last one", h.x.byteOf(2) + " " + h.x.byteOf(3), "128 -1");
    }

    private static void error() {
        House h = new House();
        House.due("none was begun", h.x.error(0, 0), -1);
        h.file(3, "main() ::= \"<a>b<c>\"");
        h.load(3);
        h.begin("main");
        House.due("nothing is there", h.x.error(0, 0), -1);
        h.run(1);
        House.due("the first one", h.x.error(0, 0) + " " + h.x.error(0, 1) + " " + h.x.error(0, 2), "1 3 13");
        House.due("the second one is not there yet", h.x.error(1, 0), -1);
        h.run(1);
        House.due("the second one", h.x.error(1, 0) + " " + h.x.error(1, 1) + " " + h.x.error(1, 2), "1 3 17");
        for (int i : new int[] {LEAST, -1, 2, 400, MOST}) {
            House.due("error(" + i + ", 0)", h.x.error(i, 0), -1);
        }
        for (int what : new int[] {LEAST, -1, 3, MOST}) {
            House.due("error(0, " + what + ")", h.x.error(0, what), -1);
        }
    }

    private static void errorsKept() {
        for (int n = 399; n <= 401; n++) {
            House h = new House();
            StringBuilder s = new StringBuilder("main() ::= \"");
            for (int i = 0; i < n; i++) {
                s.append("<a>");
            }
            House.due(n + " ERRORS", h.main(s + "\""), "");
            House.due("all of them", h.x.look(4), n);
            House.due("the 399th", h.x.error(398, 0) + " " + h.x.error(398, 2), "1 " + (13 + 3 * 398));
            House.due("the 400th", h.x.error(399, 0) + " " + h.x.error(399, 2), n < 400 ? "-1 -1" : "1 " + (13 + 3 * 399));
            House.due("the 401st", h.x.error(400, 0), -1);
        }
    }

    private static void looked() {
        House h = new House();
        House.due("none was begun", h.x.looked(0, 0), -2);
        int b = h.bean("B");
        h.property(b, "p", 3, -1);
        h.property(b, "q", 3, b);
        h.attribute("b", b);
        h.file(0, "main(b) ::= \"<b.p>x<b.q>\"");
        h.load(0);
        h.begin("main");
        House.due("nothing is there", h.x.looked(0, 0), -2);
        h.run(1);
        House.due("the first one", h.x.looked(0, 0) + " " + h.x.looked(0, 1), "0 0");
        House.due("the second one is not there yet", h.x.looked(1, 0), -2);
        h.run(1);
        House.due("the others", h.looks(), "0.0 0.1 0.-1");
        for (int i : new int[] {LEAST, -1, 3, 1000, MOST}) {
            House.due("looked(" + i + ", 0)", h.x.looked(i, 0), -2);
        }
        for (int what : new int[] {LEAST, -1, 2, MOST}) {
            House.due("looked(0, " + what + ")", h.x.looked(0, what), -2);
        }
    }

    private static void looksKept() {
        for (int n = 9; n <= 11; n++) {
            House h = new House();
            int b = h.bean("");
            int l = h.x.list();
            for (int i = 0; i < 100; i++) {
                h.x.add(l, b);
            }
            h.attribute("l", l);
            h.main("main(l) ::= \"" + "<l>".repeat(n) + "<first(l).p>\"");
            House.due("all LOOKS", h.x.look(5), 100 * n);
            House.due("the 1000th", h.x.looked(999, 0) + " " + h.x.looked(999, 1), n < 10 ? "-2 -2" : "0 -1");
            House.due("the 1001st", h.x.looked(1000, 0), -2);
        }
    }

    private static void look() {
        House h = new House();
        for (int what : new int[] {LEAST, -1, 9, MOST}) {
            House.due("look(" + what + ")", h.x.look(what), -1);
        }
        int b = h.bean("bean");
        h.property(b, "prop", 0, b);
        int m = h.x.map();
        h.entry(m, "key", b);
        h.attribute("attribute", m);
        h.file(0, "main(x={<zz>}) ::= \"<{a}><attribute.key><x>\"");
        h.load(0);
        h.begin("main");
        String[] due = {"1", "2", "1", "0", "0", "0", "2", "1", "11"};
        for (int what = 0; what < 9; what++) {
            House.due("look(" + what + ") behind begin()", h.x.look(what), due[what]);
        }
        h.run(1);
        House.due("the SUB was made", h.x.look(6), 3);
        h.run(5);
        due = new String[] {"1", "2", "1", "5", "1", "1", "3", "2", "11"};
        for (int what = 0; what < 9; what++) {
            House.due("look(" + what + ") at the end", h.x.look(what), due[what]);
        }
        House.due("begin with nothing to make", h.begin("zz") + h.x.look(6), "NSEE3");
    }

    private static void width() {
        House h = new House();
        String s = "main(w) ::= \"<w><'x'; wrap>\"";
        h.attribute("w", h.word("w".repeat(1000)));
        House.due("width(1000)", h.x.width(1000), true);
        for (int n : new int[] {LEAST, -1, 1001, MOST}) {
            House.due("width(" + n + ")", h.x.width(n), false);
        }
        h.file(0, s);
        h.load(0);
        h.begin("main");
        h.run(12000);
        House.due("1000 stays", h.x.byteOf(1000) + " " + h.x.byteOf(1001), "10 120");
        House.due("width(0)", h.x.width(0), true);
        h.begin("main");
        House.due("also while one is being made", h.x.width(1), true);
        h.run(12000);
        House.due("which keeps its own", h.x.byteOf(1000), 120);
        h.begin("main");
        h.run(12000);
        House.due("the next one has it", h.x.byteOf(1000), 10);
    }
}
