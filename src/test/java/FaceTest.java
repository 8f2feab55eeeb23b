/** Promises 1 to 4, 7 to 18 and 25: the tape, the values, what is added and what is told. */
public final class FaceTest {
    public static void main(String[] args) {
        fresh();
        tape();
        files();
        made();
        lists();
        maps();
        beans();
        attributes();
        widths();
        whileMade();
        House.over();
    }

    private static void fresh() {
        House h = new House();
        for (int i = 0; i < 9; i++) {
            House.due("look(" + i + ") of a new object", h.x.look(i), 0);
        }
        House.due("look(9)", h.x.look(9), -1);
        House.due("look(-1)", h.x.look(-1), -1);
        House.due("fault(0)", h.x.fault(0), 0);
        House.due("fault(1)", h.x.fault(1), -1);
        House.due("fault(2)", h.x.fault(2), -1);
        House.due("begin without a generation", h.begin("main"), "ISE");
        House.due("stop", h.x.stop(), false);
        House.due("run", h.run(1), "ISE");
        House.due("byteOf", h.x.byteOf(0), -1);
        House.due("error", h.x.error(0, 0), -1);
        House.due("looked", h.x.looked(0, 0), -2);
        House.due("an empty file loads", h.load(3), "0");
        House.due("NONE", TemplateHouse.NONE, -1);
    }

    private static void tape() {
        House h = new House();
        h.x.feed(0x61626364, 0x65666768, 0x696a6b6c, 0x6d6e6f70, 0x71727374);
        House.due("end(-1)", h.x.end(-1), -1);
        House.due("end(21)", h.x.end(21), -1);
        House.due("end(3): what was ready stays behind NONE", h.x.end(3), 3);
        House.due("end(2): zeros behind a number", h.x.end(2), 5);
        House.due("end(0)", h.x.end(0), 5);
        h.x.feed(0x61626364, 0, 0, 0, 0);
        House.due("end(0) takes all that is ready", h.x.end(0), 5);
        House.due("end(1)", h.x.end(1), 6);
        int v = h.x.word();
        House.due("word", v, 0);
        h.attribute("a", v);
        House.due("the bytes", h.main("main(a) ::= \"<a>\""), "abc\0\0\0");
        for (int i = 0; i < 200; i++) {
            h.x.end(20);
        }
        House.due("4001 bytes", h.x.end(1), -1);
        House.due("4000 bytes", h.x.end(0), 4000);
        House.due("zeros are no file", h.x.file(0), false);
        House.due("and the tape is empty", h.x.end(0), 0);
    }

    private static void files() {
        House h = new House();
        h.file(0, "main() ::= \"one\"");
        House.due("file(8)", h.tape("main() ::= \"two\"").x.file(8), false);
        House.due("the tape is empty", h.x.end(0), 0);
        House.due("file(-1)", h.tape("x").x.file(-1), false);
        House.due("byte 127", h.tape("main() ::= \"\u007f\"").x.file(0), false);
        House.due("byte 13", h.tape("main() ::= \"\r\"").x.file(0), false);
        House.due("byte 233", h.tape("\u00e9").x.file(0), false);
        h.load(0);
        House.due("the file is as it was", h.text("main"), "one");
        House.due("bytes 9, 10, 32, 126", h.main("main() ::= <<\t ~\n.>>"), "\t ~\n.");
        House.due("an empty tape", h.x.file(0), true);
        House.due("is an empty file", h.load(0), "0");
    }

    private static void made() {
        House h = new House();
        House.due("truth", h.x.truth(true), 0);
        House.due("truth", h.x.truth(false), 1);
        House.due("number", h.x.number(Long.MIN_VALUE), 2);
        House.due("number", h.x.number(Long.MAX_VALUE), 3);
        House.due("number", h.x.number(0), 4);
        House.due("word", h.word("w\u00ff\0"), 5);
        House.due("word, empty", h.x.word(), 6);
        House.due("bean", h.bean("be"), 7);
        h.attribute("a", h.list(0, 1, 2, 3, 4, 5, 6, 7));
        House.due("all", h.main("main(a) ::= \"<a; separator=','>\""),
            "true,false,-9223372036854775808,9223372036854775807,0,w\u00ff\0,,be");
        House.due("look(1)", h.x.look(1), 9);
        House.due("look(8)", h.x.look(8), 5);
        h = new House();
        for (int i = 0; i < 500; i++) {
            h.x.truth(true);
        }
        House.due("500 values", h.x.look(1), 500);
        House.due("501st", h.x.truth(true) + " " + h.x.number(1) + " " + h.word("w") + " "
            + h.x.list() + " " + h.x.map() + " " + h.bean("w"), "-1 -1 -1 -1 -1 -1");
        House.due("the tape is empty all the same", h.x.end(0), 0);
    }

    private static void lists() {
        House h = new House();
        h.x.number(7);
        int a = h.x.list();
        int b = h.x.list();
        int late = h.bean("B");
        House.due("a lower one", h.x.add(b, a), true);
        House.due("itself", h.x.add(b, b), false);
        House.due("a higher one", h.x.add(a, b), false);
        House.due("a bean", h.x.add(a, late), true);
        House.due("NOTHING", h.x.add(a, -1), true);
        House.due("-2", h.x.add(a, -2), false);
        House.due("none such", h.x.add(a, 4), false);
        House.due("no list", h.x.add(0, -1) + " " + h.x.add(-1, 0) + " " + h.x.add(9, 0), "false false false");
        for (int i = 2; i < 100; i++) {
            h.x.add(a, 0);
        }
        House.due("101 in one", h.x.add(a, 0), false);
        for (int i = 0; i < 38; i++) {
            h.x.list();
        }
        int n = 0;
        for (int l = 4; l < 42; l++) {
            for (int i = 0; i < 100 && n < 200; i++) {
                n += h.x.add(l, 0) ? 1 : 0;
            }
        }
        House.due("200 more", n, 200);
    }

    private static void maps() {
        House h = new House();
        int one = h.x.number(1);
        int two = h.x.number(2);
        int m = h.x.map();
        int later = h.x.number(3);
        House.due("a key", h.entry(m, "k", one), true);
        House.due("another", h.entry(m, "12345678901234567890", two), true);
        House.due("21 bytes", h.entry(m, "123456789012345678901", two), false);
        House.due("no bytes", h.entry(m, "", two), false);
        House.due("a higher value", h.entry(m, "l", later), false);
        House.due("itself", h.entry(m, "l", m), false);
        House.due("NOTHING", h.entry(m, "n", -1), true);
        House.due("again, where it stands", h.entry(m, "k", two), true);
        House.due("no map", h.entry(one, "k", -1), false);
        House.due("look(8)", h.x.look(8), 22);
        h.attribute("a", m);
        House.due("the values", h.main("main(a) ::= \"<a; separator=',', null='-'>:<a.k>:<a.keys; separator='|'>\""),
            "2,2,-:2:k|12345678901234567890|n");
        for (int i = 0; i < 47; i++) {
            h.entry(m, "x" + i, one);
        }
        House.due("51st key", h.entry(m, "y", one), false);
        House.due("one of the 50 again", h.entry(m, "x3", two), true);
        House.due("a bean of a higher number", h.entry(m, "x4", h.bean("b")), true);
    }

    private static void beans() {
        House h = new House();
        int one = h.x.number(1);
        int b = h.bean("B");
        House.due("get", h.property(b, "p", 0, one), true);
        House.due("twice", h.property(b, "p", 0, -1), false);
        House.due("field of that name", h.property(b, "p", 3, -2), true);
        House.due("sorts", h.property(b, "q", 4, one) + " " + h.property(b, "q", -1, one), "false false");
        House.due("values", h.property(b, "q", 1, -3) + " " + h.property(b, "q", 1, 2), "false false");
        House.due("a value of any number", h.property(b, "s", 1, b), true);
        House.due("names", h.property(b, "", 0, one) + " " + h.property(b, "12345678901234567", 0, one)
            + " " + h.property(b, "1234567890123456", 2, one), "false false true");
        House.due("no bean", h.property(one, "p", 0, one), false);
        House.due("look(8)", h.x.look(8), 20);
        for (int i = 0; i < 8; i++) {
            House.due("more", h.property(b, "m" + i, 0, one), true);
        }
        House.due("the 13th", h.property(b, "z", 0, one), false);
    }

    private static void attributes() {
        House h = new House();
        int v = h.x.number(5);
        House.due("one", h.tape("a").x.attribute(v), 1);
        House.due("the same again", h.tape("a").x.attribute(-1), 2);
        House.due("no value", h.tape("a").x.attribute(1) + " " + h.tape("a").x.attribute(-2), "-1 -1");
        House.due("no name", h.x.attribute(v), -1);
        House.due("17 bytes", h.tape("12345678901234567").x.attribute(v), -1);
        House.due("16 bytes", h.tape("1234567890123456").x.attribute(v), 3);
        House.due("look(2)", h.x.look(2), 3);
        for (int i = 0; i < 37; i++) {
            h.tape("b").x.attribute(v);
        }
        House.due("41st", h.tape("b").x.attribute(v), -1);
        House.due("clear", h.x.clear(), true);
        House.due("look(2)", h.x.look(2), 0);
        House.due("one", h.tape("b").x.attribute(v), 1);
        House.due("names of attributes are none of values", h.x.look(8), 0);
    }

    private static void widths() {
        House h = new House();
        House.due("width(-1)", h.x.width(-1), false);
        House.due("width(1001)", h.x.width(1001), false);
        House.due("width(1000)", h.x.width(1000), true);
        House.due("width(3)", h.x.width(3), true);
        h.file(0, "main() ::= \"<['ab','cd','ef']; wrap>\"");
        h.load(0);
        h.begin("main");
        House.due("while a text is made", h.x.width(0), true);
        h.run(100);
        House.due("that text keeps its own", h.bytes(), "abcd\nef");
        House.due("the next one has the new one", h.text("main"), "abcdef");
    }

    private static void whileMade() {
        House h = new House();
        int l = h.x.list();
        int m = h.x.map();
        int b = h.bean("b");
        h.file(0, "main(a) ::= \"x<a>y\"");
        h.load(0);
        h.begin("main");
        House.due("state", h.x.look(7), 1);
        House.due("values", h.x.truth(true) + " " + h.x.number(1) + " " + h.word("w") + " " + h.x.list()
            + " " + h.x.map() + " " + h.bean("b"), "-1 -1 -1 -1 -1 -1");
        House.due("changes", h.x.add(l, -1) + " " + h.entry(m, "k", -1) + " " + h.property(b, "p", 0, -1),
            "false false false");
        House.due("attribute", h.tape("a").x.attribute(-1), -1);
        House.due("clear", h.x.clear(), false);
        House.due("the tape is empty", h.x.end(0), 0);
        House.due("begin", h.begin("main"), "ISE");
        House.due("file", h.tape("main() ::= \"z\"").x.file(0), true);
        House.due("load", h.load(0), "1");
        House.due("stop", h.x.stop(), true);
        House.due("stop again", h.x.stop(), false);
        House.due("state", h.x.look(7), 4);
        House.due("run", h.run(1), "ISE");
        House.due("then", h.x.add(l, -1), true);
        House.due("look(0)", h.x.look(0), 2);
    }
}
