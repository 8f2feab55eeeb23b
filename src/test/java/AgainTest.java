/** Nothing of an earlier file, load() or text is left in a later one (promises 4, 5, 19): the same
 * object reads and makes what is shorter, behind a FAULT or an ERROR 8. */
public final class AgainTest {
    public static void main(String[] args) {
        behindFaults();
        shorterFiles();
        shorterTexts();
        otherGenerations();
        behindTexts();
        smallPlaces();
        House.over();
    }

    private static String good() {
        return "d::=[\"k\":\"v\"] e::=[\"k\":\"w\",default:key] al::=t t(x,y={<x>})::=\"a}b<x>\\}c<y>\" "
            + "main(x)::=<<\n  <@r()>}\n<if(x)>\n1\n<else>\n2}\n<endif>\n<{p|<p>3}>}<d.k><e.q><al('4')>\n"
            + "<['5','6']:{q|<q><i>}>}<x.y>\n>> @main.r()::=\"7<x>\"";
    }

    private static final String TEXT = "  7}\n2}\n3}vqa}b4}c4\n5162}";

    /** After each FAULT the next load() reads as a new object does. */
    private static void behindFaults() {
        String[] bad = {"(", "a(", "a(b", "a(b=", "a(b={", "a(b={x", "a(b={x<", "a(b={<{<if(a)>", "a() ::= \"", "a() ::= <<", "a() ::= <%x",
            "a() ::= \"abc<\"", "a() ::= \"abc<@\"", "a() ::= \" <{x|abc<@\"", "a() ::= \"<if(a)>abc<@r>def<{<@if>", "a() ::= \"<if(a)>abc<@r>def<{<@if>\"",
            "d ::= [", "d ::= [\"k\":{x", "d ::= [\"k\":{<@r()>}]", "@a.r() ::= \"", "@a.r() ::= \"<@super.r()><@s()>\"", "delimiters \"$\", \"#\" a() ::= \"$\"",
            "delimiters \"$\", \"x\"", "import 0", "import 1 a() ::= \"<@r()>\" b( ::=", "a() ::= \"<zz()>\"", "a ::= a", "a() ::= \"<@r()><@r()>\"",
            "main(x,y,z,u) ::= \"\" t ::= zz", "a() ::= \"<a(b=c,b=c)>\"", "a() ::= \"<x:{},('t')(<\"", "a() ::= \"\n", "a() ::= \"  <{ <{ <!\"",
            "a() ::= \"" + "<if(a)>".repeat(25) + "\"", "a() ::= <<\n" + "  <x>\n".repeat(100) + "<>>>", "x".repeat(1000)};
        for (String s : bad) {
            House h = new House();
            h.file(1, "u() ::= \"\"");
            h.file(0, s);
            House.due("a FAULT: " + s, h.load(0).indexOf('@') > 0, true);
            h.file(0, good());
            House.due("behind the FAULT of " + s, h.load(0), "3");
            House.due("its text", h.text("main") + h.errors().charAt(0) + h.x.look(4), TEXT + "41");
            h = new House();
            h.file(0, s);
            h.load(0);
            h.file(0, "main() ::= \"<true>}\"");
            House.due("behind the FAULT of " + s, h.load(0), "1");
            House.due("its text", h.text("main"), "true}");
        }
    }

    private static void again(String before, String after, String due) {
        House h = new House();
        h.file(0, before);
        h.load(0);
        h.file(0, after);
        House.due(before + " then " + after, h.load(0), due);
    }

    /** What stood behind the end of a file is not there any more. */
    private static void shorterFiles() {
        again("a() ::= \"\" // x", "a() ::= \"\" /", "1@0:11");
        again("/* x */", "/* x *", "1@0:6");
        again("/* x */", "/* x", "1@0:4");
        again("/* */ ", "/*", "1@0:2");
        again("a() ::= \"\"", "a() ::", "1@0:4");
        again("a() ::= \"\"", "a() :", "1@0:4");
        again("a() ::= \"\"", "a() ::= \"", "1@0:9");
        again("a() ::= \"\"", "a", "1@0:1");
        again("abcdefghijklmnop() ::= \"\"", "abcdefghijklmno", "1@0:15");
        again("abcdefghijklmnopq() ::= \"\"", "abcdefghijklmnop", "1@0:16");
        again("a() ::= <<x>>", "a() ::= <<x>", "1@0:12");
        again("a() ::= <<x>>", "a() ::= <", "1@0:8");
        again("a() ::= <%x%>", "a() ::= <%x%", "1@0:12");
        again("d ::= [default:key]", "d ::= [default:ke", "1@0:15");
        again("d ::= [default:true]", "d ::= [defaul", "1@0:7");
        again("import 1", "import", "1@0:6");
        again("import 1", "impor", "1@0:5");
        again("delimiters \"$\",\"$\"", "delimiters \"$\",\"$", "1@0:17");
        again("a(b={x}) ::= \"\"", "a(b={x", "1@0:6");
        again("a(b={<!x!>}) ::= \"\"", "a(b={<!x!", "1@0:9");
        again("a(b={\\}}) ::= \"\"", "a(b={\\", "1@0:6");
        again("a(b={x|}) ::= \"\"", "a(b={x", "1@0:6");
        again("a(b={<if(a||b)><endif>}) ::= \"\"", "a(b={<if(a|", "1@0:10");
        again("a(b={<a(...)>}) ::= \"\"", "a(b={<a(..", "1@0:8");
        again("a(b={<\\\\>\n}) ::= \"\"", "a(b={<\\\\>", "1@0:9");
        again("a() ::= \"\" b() ::= \"\"", "a() ::= \"\" ", "1");
        again("a() ::= \"\" b() ::= \"\"", "", "0");
    }

    /** Nor is what stood behind the end of the TEXT of a BODY. */
    private static void shorterTexts() {
        again("a() ::= \"<a(...)>\"", "a() ::= \"<a(..\"", "1@0:12");
        again("a() ::= \"<a(...)>\"", "a() ::= \"<a(.\"", "1@0:12");
        again("a() ::= \"<!x!>\"", "a() ::= \"<!x!\"", "1@0:13");
        again("a() ::= \"<if(a||b)><endif>\"", "a() ::= \"<if(a|\"", "1@0:14");
        again("a() ::= \"<if(a&&b)><endif>\"", "a() ::= \"<if(a&\"", "1@0:14");
        again("a() ::= \"<ab>\"", "a() ::= \"<a\"", "1@0:11");
        again("a() ::= \"<'ab'>\"", "a() ::= \"<'ab\"", "1@0:13");
        again("a() ::= \"<\\n>\"", "a() ::= \"<\\\"", "1@0:11");
        again("a() ::= <<x<\\\\>\ny\n>>", "a() ::= <<x<\\\\>\n>>", "1@0:16");
        again("a() ::= \"<{x|}>\"", "a() ::= \"<{x\"", "1@0:12");
        again("a() ::= \"<{x}>\"", "a() ::= \"<{x\"", "1@0:12");
        again("a() ::= \"<if(a)>x<endif>\"", "a() ::= \"<if(a)>x\"", "1@0:17");
        House h = new House();
        House.due("first", h.main("main() ::= \"x\\<\""), "x<");
        House.due("shorter", h.main("main() ::= \"x\\\""), "x\\");
        House.due("first", h.main("main() ::= <<\n1\n  <!x!>\n>>"), "1\n");
        House.due("shorter", h.main("main() ::= <<\n1\n <!x!>\n>>"), "1\n");
        House.due("shorter", h.main("main() ::= <<\n1\n\n>>"), "1\n");
    }

    /** What an earlier GENERATION had is no more had. */
    private static void otherGenerations() {
        for (String name : new String[] {"i", "i0", "a", "z"}) {
            String main = "main() ::= \"<" + name + "()>\" ";
            again(main + name + "() ::= \"\"", main + "b() ::= \"\"", "6@0:13");
            again(main + name + " ::= main", main + name + " ::= [default:true]", "6@0:13");
            House h = new House();
            h.main(name + " ::= [\"k\":\"v\"] main() ::= \"<" + name + ".k>\"");
            House.due("the DICTIONARY " + name, h.bytes(), "v");
            h.is("main() ::= \"<~1" + name + ">\"", "", "1@1");
            h.file(0, name + "() ::= \"t\"");
            h.load(0);
            House.due("the TEMPLATE " + name, h.text(name), "t");
            h.file(0, "other() ::= \"" + name + "\"");
            h.load(0);
            House.due("no TEMPLATE " + name, h.begin(name), "NSEE");
        }
        House h = new House();
        h.is("main() ::= \"<('77')>\"", "77", "");
        h.is("main() ::= \"<'x'; format=~1''>\"", "x", "9@1");
    }

    /** Nothing of a text that ENDED, was stopped, or had ERRORS and LOOKS. */
    private static void behindTexts() {
        House h = new House();
        int b = h.bean("bean");
        int w = h.word("w".repeat(100));
        int l = h.x.list();
        for (int i = 0; i < 100; i++) {
            h.x.add(l, w);
        }
        h.attribute("l", l).attribute("b", b);
        h.file(0, "main(l,b) ::= <<\n <{x<b><zz><({ <l><l>})><if(l)>y <l; separator='\\n', wrap, anchor, format='upper'><l><endif>}; anchor>\n>> "
            + "t(b) ::= \"<b>.<b:{<i>}>\" deep(b) ::= \"<(deep(b))>\" u() ::= \"u\"");
        h.x.width(3);
        h.load(0);
        for (int i = 0; i < 3; i++) {
            h.begin("main");
            House.due("it ENDS", h.run(12000) + h.run(12000) + h.x.look(7) + " " + h.x.look(4), "023 2");
            House.due("the next one is a new one", h.text("t") + h.errors() + h.looks() + h.x.look(6), "bean.10.-12");
            h.begin("main");
            h.run(7);
            h.x.stop();
            House.due("the next one is a new one", h.text("u") + h.errors() + h.looks() + h.x.look(6), "u1");
            House.due("30 and their ERROR 7", h.text("deep") + h.x.look(4), "1");
        }
        h.file(0, "main(l) ::= <<\n <{a\n  <({ b<\\n>c<l:{x|<l:{y|d}; separator='.', format='upper', wrap='-'>}; separator='-', null='+', anchor>})>}; anchor>\n>> "
            + "t() ::= <<\n<{<i>}><i><({a\nb})>\nc\n>>");
        h.x.width(0);
        House.due("two TEMPLATEs", h.load(0), "2");
        for (int i = 0; i < 3; i++) {
            House.due("it ENDS in a WORD", h.text("main") + h.x.look(4) + h.x.look(6), " a\n12000");
            House.due("the next one is a new one", h.text("t") + " " + h.errors().substring(0, 2) + h.x.look(4), "a\nb\nc 1@2");
            h.text("main");
        }
    }

    /** ERRORS at the first places at which they can stand. */
    private static void smallPlaces() {
        for (int blanks = 0; blanks < 40; blanks++) {
            House h = new House();
            h.file(0, "a(n)::=<%" + " ".repeat(blanks) + "<n.(n)><(n)()><['b']:('x')(),{x|<x>}>.<strlen(n)><n.b><n; format=n>%>");
            h.load(0);
            House.due("text", h.text("a"), ".");
            int at = 9 + blanks;
            House.due("errors", h.errors(), "4@0:" + (at + 2) + " 2@0:" + (at + 8) + " 2@0:" + (at + 21) + " 6@0:" + (at + 39)
                + " 4@0:" + (at + 51));
        }
    }
}
