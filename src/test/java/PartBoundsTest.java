/** "at most 20 lie in one another": each kind of part, alone and among others, the 20th and the 21st;
 * the 41st DEFINITION, the 13th PARAM (promise 5, FAULT 4). */
public final class PartBoundsTest {
    private static final String HEAD = "t(x, y=\"\") ::= \"\" main(a, b) ::= <%";

    public static void main(String[] args) {
        arguments();
        subs();
        conditions();
        branches();
        regions();
        constants();
        mixed();
        atTheTwentieth();
        faultsThere();
        noParts();
        definitions();
        parameters();
        House.over();
    }

    private static void fault(int number, String marked) {
        House.fault(number, marked);
    }

    /** A FAULT, or none, of the TEXT of a BODY. */
    private static void bad(int number, String marked) {
        House.fault(number, HEAD + marked + "%>");
    }

    private static void good(String text) {
        House.fine(HEAD + text + "%>");
    }

    /** 20 of a kind are allowed, of 21 the last one is FAULT 4, at the ~ in its opening. */
    private static void nest(String before, String opening, String core, String closing, String behind) {
        String open = opening.replace("~", "");
        good(before + open.repeat(20) + core + closing.repeat(20) + behind);
        bad(4, before + open.repeat(20) + opening + core + closing.repeat(21) + behind);
        bad(4, before + open.repeat(20) + opening + core);
    }

    private static void args(String opening, String core, String closing) {
        nest("<", opening, core, closing, ">");
    }

    private static void arguments() {
        args("(~", "a", ")");
        args("[~", "a", "]");
        args("[ ,,~", "a", ",,]");
        args("[~a, b,", "true", "]");
        args("t(~", "'x'", ")");
        args("t( x = ~", "a", ")");
        args("(~'t')(", "a", ")");
        args("(~'t')(z=a, y=", "a", ")");
        args("a:t(~", "a", ")");
        args("a:(~'t')(", "a", ")");
        args("a.(~", "a", ")");
        args("a.b.(~", "a", ").c");
        for (String f : "first last rest trunc strip reverse length strlen trim".split(" ")) {
            args(f + "(~", "a", ")");
        }
    }

    private static void subs() {
        nest("", "<~{", "", "}>", "");
        nest("", "<a:~{x|", "", "}>", "");
        nest("", "<a,b:~{x,y|", "", "}>", "");
        nest("<a", ":~{<b", "", ">}", ">");
        nest("<a:t():{}", ",~{<b:t()", "", ">}", ">");
        nest("", "<~if({", "", "}.x)><endif>", "");
    }

    private static void conditions() {
        nest("<if(", "~!", "a", "", ")><endif>");
        nest("<if(", "~(", "a", ")", ")><endif>");
        nest("<if(a)><elseif(", "~!", "a", "", ")><endif>");
        nest("<if(a)><elseif(", "~(", "a||b", ")", ")><endif>");
        nest("<if(a||b&&", "~(a && ", "a", ")", ")><endif>");
        good("<if(" + "!(".repeat(10) + "a" + ")".repeat(10) + ")><endif>");
        bad(4, "<if(" + "!(".repeat(10) + "~!a" + ")".repeat(10) + ")><endif>");
        bad(4, "<if(!" + "(!".repeat(9) + "(~(a)" + ")".repeat(10) + ")><endif>");
        bad(4, "<if(a||b" + "||!a".repeat(5) + "&&" + "!".repeat(20) + "~!a)><endif>");
    }

    private static void branches() {
        nest("", "<~if(a)>", "x", "<endif>", "");
        nest("", "< ~if ( a ) >", "x", "<else><endif>", "");
        nest("", "<~if(a)>", "x", "<elseif(b)><else><endif>", "<if(a)><endif>");
        String elseif = "<if(a)><elseif(b)>";
        good(elseif.repeat(20) + "<endif>".repeat(20));
        bad(4, elseif.repeat(20) + "<~if(a)>");
        String other = "<if(a)><else>";
        good(other.repeat(20) + "<endif>".repeat(20));
        bad(4, other.repeat(20) + "<~if(a)>");
        bad(4, "<if(a)>".repeat(20) + "<~if(");
        bad(4, "<if(a)>".repeat(20) + "<~if x");
        good("<if(a)>".repeat(19) + "<if(!a)><elseif(!a)><else><endif>" + "<endif>".repeat(19));
    }

    private static String named(String s, int n) {
        StringBuilder all = new StringBuilder();
        for (int i = 0; i < n; i++) {
            all.append(s.replace("%", "r" + i));
        }
        return all.toString();
    }

    private static void regions() {
        String open = named("<@%>", 20);
        good(open + "<@s()>" + "<@end>".repeat(20));
        bad(4, open + "<~@s>" + "<@end>".repeat(21));
        bad(4, open + "< ~@ s >");
        bad(1, open + "<@s~");
        bad(1, open + "<@s ~x>");
        bad(1, open + "<@~'s'>");
        bad(1, open + "<@~if>");
        bad(1, open + "<~@super.s>");
        bad(2, open + "<@~abcdefghijklmnopq>");
        bad(3, open + "<@~r0>");
    }

    private static void constants() {
        House.fine("a(b={" + "<{".repeat(19) + "}>".repeat(19) + "}) ::= \"\"");
        fault(4, "a(b={" + "<{".repeat(19) + "<~{}>" + "}>".repeat(19) + "}) ::= \"\"");
        House.fine("d ::= [\"k\":{<" + "(".repeat(19) + "a" + ")".repeat(19) + ">}]");
        fault(4, "d ::= [\"k\":{<" + "(".repeat(20) + "~a" + ")".repeat(20) + ">}]");
        House.fine("d ::= [default:{" + "<if(a)>".repeat(19) + "<endif>".repeat(19) + "}]");
        fault(4, "d ::= [default:{" + "<if(a)>".repeat(19) + "<~if(a)>" + "<endif>".repeat(20) + "}]");
        House.fine("a() ::= \"<@r()>\" @a.r() ::= \"" + "<{".repeat(20) + "}>".repeat(20) + "\"");
        fault(4, "@a.r() ::= \"" + "<{".repeat(20) + "<~{}>" + "}>".repeat(20) + "\"");
    }

    /** Parts of all kinds in one another: if, region, ITEM, SUB; ARG of an option, SUB, ITEM, SUB. */
    private static void mixed() {
        String open = named("<if(a)><@%><[{", 5);
        String close = "}]><@end><endif>".repeat(5);
        good(open + close);
        good(open + "<@s()><a.b><a>" + close);
        bad(4, open + "<~if(!a)>");
        bad(4, open + "<~@s><@end>");
        bad(4, open + "<(~a)>");
        bad(4, open + "<~{}>");
        open = "<a; null={<a; separator=[{".repeat(4);
        close = "}]>}>".repeat(4);
        good(open + "<a; wrap, anchor>" + close);
        bad(4, open + "<a; wrap=~a>" + close);
        bad(4, open + "<a; wrap, anchor=~a>" + close);
        // !, ( COND ), SUB, ARG, ARG, ITEM, SUB: seven parts
        open = "<if(!({<('t')(x=first([{".repeat(2);
        close = "}]))>}))><endif>".repeat(2);
        good(open + "<if(!!!(!!a))><endif>" + close);
        bad(4, open + "<if(!!!(!!~!a))><endif>" + close);
    }

    /** What is no part may stand in the 20th one. */
    private static void atTheTwentieth() {
        String open = "<if(a)>".repeat(20);
        String close = "<endif>".repeat(20);
        good(open + "a\\<<\\n><!x!><a><a.b.c><'s'><true><[]><[,,]><t(...)><a:t()><a:t(...)><@r()>" + close);
        good(open + "<a;wrap><a;anchor,wrap>" + close);
        bad(4, open + "<t(~a)>" + close);
        bad(4, open + "<t(x=~a)>" + close);
        bad(4, open + "<[,~a]>" + close);
        bad(4, open + "<a.(~a)>" + close);
        bad(4, open + "<a:~{}>" + close);
        bad(4, open + "<a,b:~{x,y|}>" + close);
        bad(4, open + "<a:t():(~'t')()>" + close);
        bad(4, open + "<(~'t')(a)>" + close);
        bad(4, open + "<first(~a)>" + close);
        bad(4, open + "<a;null=~a>" + close);
        bad(4, open + "<~{x|}>" + close);
        bad(4, open + "<~if(a)><endif>" + close);
        bad(4, open + "<~@r><@end>" + close);
        String in19 = "<if(a)>".repeat(19) + "<if(";
        good(in19 + "!a)><elseif((a))><else><endif>" + "<endif>".repeat(19));
        bad(4, in19 + "!~!a)>");
        bad(4, in19 + "(~(a)))>");
        bad(4, in19 + "a)><elseif(!~(a))>");
        bad(4, in19 + "!first(~a))>");
        bad(4, in19 + "{<(~a)>})>");
        bad(4, in19 + "(a.(~b)))>");
    }

    /** "At one place the lowest number counts". */
    private static void faultsThere() {
        String open = "<" + "(".repeat(21);
        for (String s : new String[] {"a", "_", "'x", "\"", "{", "[", "(", "true", "false", "super", "first", "trim"}) {
            bad(4, open + "~" + s);
        }
        for (String s : new String[] {")", "]", "9", ".", ",", "=", "if", "elseif", "else", "endif", "@", "!", ">", "", ":"}) {
            bad(1, open + "~" + s);
        }
        bad(2, open + "~abcdefghijklmnopq");
        bad(4, open + "~abcdefghijklmnop");
        bad(4, open + " \t~a");
        String ifs = "<if(a)>".repeat(20);
        bad(1, ifs + "<[,~)");
        bad(1, ifs + "<t(~.)");
        bad(1, ifs + "<t(~if=a)");
        bad(1, ifs + "<endif ~x");
        bad(1, "<if(" + "!".repeat(20) + "~)");
        bad(1, "<if(" + "!".repeat(20) + "~if");
        bad(2, "<if(" + "!".repeat(20) + "~abcdefghijklmnopq");
        bad(1, "<if(" + "(".repeat(20) + "a~!");
    }

    /** As many as one likes side by side, or of what is no part. */
    private static void noParts() {
        good("<a" + ".b".repeat(500) + ">");
        good("<a" + ":t()".repeat(300) + ">");
        good("<a" + ":{}".repeat(300) + ">");
        good("<a:{}" + ",{}".repeat(300) + ">");
        good("<[a" + ",a".repeat(500) + "]>");
        good("<if(a" + "||a".repeat(300) + "&&a".repeat(300) + ")><endif>");
        good("<if(a)><endif>".repeat(100));
        good("<if(a)>" + "<elseif(a)>".repeat(200) + "<else><endif>");
        good(named("<@%><@end>", 100));
        good("<if(!a&&(a)" + "||!a&&(a)".repeat(100) + ")><endif>");
        good("<('t')(" + named("%=a,", 100) + "...)>");
    }

    // ---- 40 DEFINITIONS, 12 PARAMs

    private static String forty(String prefix) {
        StringBuilder s = new StringBuilder();
        for (int i = 0; i < 10; i++) {
            String t = prefix + i;
            s.append(t).append("() ::= \"<@r()>\" a").append(t).append(" ::= ").append(t);
            s.append(" d").append(t).append(" ::= [default:key] @").append(t).append(".r() ::= \"\" ");
        }
        return s.toString();
    }

    private static void definitions() {
        String s = forty("t");
        House.fine(s);
        fault(4, s + "~x() ::= \"\"");
        fault(4, s + "~x ::= t0");
        fault(4, s + "~x ::= [default:key]");
        fault(4, s + "~@t0.s() ::= \"\"");
        fault(4, s + "~@t0.r() ::= \"\"");
        fault(4, s + "~x");
        fault(4, s + "~@");
        fault(4, s + "~if(");
        fault(3, s + "~t0() ::= \"\"");
        fault(3, s + "~dt9 ::= t0");
        fault(2, s + "~abcdefghijklmnopq() ::= \"\"");
        fault(1, s + "~key() ::= \"\"");
        fault(1, s + "~9");
        fault(1, s + "// \n~.");
        House h = new House();
        h.file(1, s);
        h.file(0, "import 1 x(){}");
        House.due("40 in each file", h.load(0), "1@0:12");
        h.file(0, "import 1 " + "x() ::= \"\"");
        House.due("20 names, and one more", h.load(0), "21");
        h = new House();
        h.file(7, s);
        h.file(1, "import 7 at0() ::= \"\" t0() ::= \"\" dt0() ::= \"\"");
        House.due("two of these 20 again", h.load(1), "21");
    }

    private static void parameters() {
        String twelve = "a,b,c,d,e,f,g,h,i,j,k,l";
        House.fine("t(" + twelve + ") ::= \"\"");
        fault(4, "t(" + twelve + ",~m) ::= \"\"");
        fault(4, "t(" + twelve + ",~m=true) ::= \"\"");
        fault(4, "t(" + twelve + ",~m");
        fault(4, "t(" + twelve + "=true,~m=true) ::= \"\"");
        fault(3, "t(" + twelve + "=true,~m) ::= \"\"");
        fault(3, "t(" + twelve + ",~c) ::= \"\"");
        fault(2, "t(" + twelve + ",~abcdefghijklmnopq) ::= \"\"");
        fault(1, "t(" + twelve + ",~true) ::= \"\"");
        fault(1, "t(" + twelve + ",~) ::= \"\"");
        House h = new House();
        h.is("t(" + twelve + ") ::= \"<a><b><c><d><e><f><g><h><i><j><k><l>\" main() ::= "
            + "\"<t('1','2','3','4','5','6','7','8','9','a','b','c')>\"", "123456789abc", "");
        h.is("main() ::= \"<" + "['x'],".repeat(11) + "['y']:{" + twelve + "|<a><l><i><k>}>\"", "xyxx", "");
        h.is("main() ::= \"<['z']:{a|<a>}><{" + twelve + "|<l>}>\"", "z", "");
    }
}
