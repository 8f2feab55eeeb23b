/** The bounds of words, signs and definitions outside of TEXTS, and of TEXTS and TAGS (promise 5):
 * the last form that is allowed, the first one that is not, and the place of its FAULT. */
public final class WordBoundsTest {
    private static final String N16 = "abcdefghijklmnop";
    private static final String N17 = N16 + "q";
    private static final String[] OUTSIDE = {"delimiters", "import", "default", "key", "true", "false"};
    private static final String[] INSIDE = {"first", "last", "rest", "trunc", "strip", "reverse", "length",
        "strlen", "trim", "if", "elseif", "else", "endif", "super", "true", "false"};

    public static void main(String[] args) {
        blanksAndComments();
        firstBytes();
        longNames();
        wordsOutside();
        wordsInside();
        numbers();
        strings();
        bodies();
        delimiters();
        parameters();
        entries();
        escapes();
        bytesInTags();
        joinedLines();
        comments();
        branches();
        regionPlaces();
        regionWords();
        options();
        members();
        arguments();
        conditions();
        subParameters();
        House.over();
    }

    private static void fault(int number, String marked) {
        House.fault(number, marked);
    }

    private static void fine(String source) {
        House.fine(source);
    }

    private static void text(String source, String text) {
        House.text(source, text);
    }

    /** A TAG that has just these PARAMs around it. */
    private static String in(String tag) {
        return "t(x) ::= \"\" main(a, b) ::= <%" + tag + "%>";
    }

    // ---- Words of a file

    private static void blanksAndComments() {
        fine("");
        fine(" \t\n");
        fine("//");
        fine("// x");
        fine("//\n//*\n/**/");
        fine("a\t(\nb=\"\" ,// )\n c/*)*/=/* /* */ true)::=\"\"");
        fine("/*/*/");
        fine("/***/a/*/ */()/*\n*/::=//\n\"\"");
        fault(1, "/*~");
        fault(1, "/*/~");
        fault(1, "/**~");
        fault(1, "/* * /~");
        fault(1, "a() ::= \"\"~/");
        fault(1, "~/ *x*/");
        fault(1, "~* /");
        fault(1, "a() ~:: = \"\"");
        fault(1, "a()~:\n:= \"\"");
        fault(1, "a() ~:= \"\"");
        fault(1, "a() ::= // \"\"~");
        fine("a() ::= \"//\" b() ::= \"/*\" c() ::= <</*>> d() ::= <%//%>");
    }

    private static void firstBytes() {
        for (char c = ' '; c <= '~'; c++) {
            boolean letter = c >= 'a' && c <= 'z' || c >= 'A' && c <= 'Z' || c == '_';
            House h = new House();
            String s = "a" + c + "() ::= \"\"";
            h.file(0, s);
            boolean row = letter || c >= '0' && c <= '9' || c == ' ';
            String want = row ? "1" : c == '(' ? "1@0:2" : "1@0:1";
            House.due("in a NAME: " + c, h.load(0), want);
            h = new House();
            h.file(0, c + "a() ::= \"\"");
            want = letter || c == ' ' ? "1" : c == '@' ? "1@0:2" : "1@0:0";
            House.due("ahead of a NAME: " + c, h.load(0), want);
        }
        text("zZaA_09() ::= \"z\" _() ::= \"<zZaA_09()>\" main() ::= \"<_()>\"", "z");
    }

    /** A NAME of 16 bytes is allowed in this place, one of 17 is FAULT 2 at its beginning. */
    private static void names(String marked) {
        fine(marked.replace("~", N16));
        int n = marked.length() - marked.replace("~", "").length();
        for (int i = 0; i < n; i++) {
            StringBuilder s = new StringBuilder();
            int at = 0;
            for (char c : marked.toCharArray()) {
                if (c == '~') {
                    s.append(at == i ? "~" + N17 : N16);
                    at++;
                } else {
                    s.append(c);
                }
            }
            fault(2, s.toString());
        }
    }

    private static void longNames() {
        names("~() ::= \"\"");
        names("a() ::= \"\" ~ ::= a");
        fine(N16 + "() ::= \"\" a ::= " + N16);
        fault(2, "a() ::= \"\" b ::= ~" + N17);
        names("~ ::= [default:true]");
        names("a(~) ::= \"\"");
        names("a(b, ~=true) ::= \"\"");
        fine(N16 + "() ::= \"<@r()>\" @" + N16 + ".r() ::= \"\"");
        fault(2, "@~" + N17 + ".r() ::= \"\"");
        fine("a() ::= \"<@" + N16 + "()>\" @a." + N16 + "() ::= \"\"");
        fault(2, "@a.~" + N17 + "() ::= \"\"");
        names(in("<~>"));
        names(in("<a.~>"));
        names(in("<a.b.~.c>"));
        names(in("<a,~:{x,y|}>"));
        names(in("<{~|}>"));
        names(in("<{x,~|}>"));
        names(in("<@~()>"));
        names(in("<@~><@end>"));
        names(in("<('t')(~=a,...)>"));
        names(in("<if(!~)><elseif(~)><endif>"));
        names(in("<[~,~]; separator=~>"));
        names(in("<first(~)>"));
        String t = N16 + "(" + N16 + ") ::= \"\" ";
        fine(t + in("<" + N16 + "(" + N16 + "=a)><a:" + N16 + "()>"));
        fault(2, t + in("<~" + N17 + "(a)>"));
        fault(2, t + in("<" + N16 + "(~" + N17 + "=a)>"));
        fault(2, t + in("<a:~" + N17 + "()>"));
        fault(2, t + in("<super.~" + N17 + "(a)>"));
        fault(2, t + in("<a:super.~" + N17 + "()>"));
        fault(1, "@a." + N16 + "() ::= \"<~@super." + N17 + "()>\"");
        fault(1, "@a." + N16 + "() ::= \"<~@super." + N17 + "\"");
        fault(9, "@a.~" + N16 + "() ::= \"<@super." + N16 + "()>\"");
        fault(1, in("<a; ~separatorseparator=a>"));
        fault(2, in("<a; null=~" + N17 + ">"));
    }

    /** "delimiters, import, default, key, true, false none outside of TEXTS" */
    private static void wordsOutside() {
        String a = "a() ::= \"<@r()>\" ";
        for (String w : OUTSIDE) {
            fault(1, a + "~" + w + "() ::= \"\"");
            fault(1, a + "~" + w + " ::= a");
            fault(1, a + "~" + w + " ::= [default:true]");
            fault(1, a + "b ::= ~" + w);
            fault(1, a + "b(~" + w + ") ::= \"\"");
            fault(1, a + "b(c,~" + w + "=true) ::= \"\"");
            fault(1, a + "@~" + w + ".r() ::= \"\"");
            fault(1, a + "@a.~" + w + "() ::= \"\"");
            fine(w + "s() ::= \"\" _" + w + "(" + w + "1) ::= \"\"");
        }
        for (String w : INSIDE) {
            if (!w.equals("true") && !w.equals("false")) {
                fine(w + "(" + w + ") ::= \"\" b ::= " + w);
                fine(w + " ::= [default:true]");
            }
        }
        fault(9, "a() ::= \"\" @a.~if() ::= \"\"");
        // words that differ in a byte
        fault(1, "xmport ~1");
        fault(1, "impors ~1");
        fault(1, "xelimiters ~\"$\",\"$\"");
        fault(1, "delimiter ~\"$\",\"$\"");
        fault(1, "d ::= [~xefault:true]");
        fault(1, "d ::= [~defaulx:true]");
        fault(1, "d ::= [default:~xrue]");
        fault(1, "d ::= [default:~trux]");
        fault(1, "d ::= [default:~xalse]");
        fault(1, "d ::= [default:~xey]");
        fault(1, "d ::= [default:~kex]");
        fault(1, "a(b=~xrue) ::= \"\"");
        fine("xmport() ::= \"\" xelimiters(xefault,kex) ::= \"\" Import(True,False,KEY) ::= \"\"");
    }

    private static void wordsInside() {
        for (String w : INSIDE) {
            fault(1, in("<a.~" + w + ">"));
            fault(1, in("<super.~" + w + "()>"));
            fault(1, in("<t(~" + w + "=a)>"));
            fault(1, in("<t(x=a,~" + w + "=a)>"));
            fault(1, in("<a;~" + w + "=a>"));
            fine(in("<" + w + "x><x_" + w + ">"));
            if (!w.equals("super")) {
                fault(1, in("<@~" + w + "()>"));
                fault(1, in("<@~" + w + ">"));
                fault(1, in("<a:~" + w + "()>"));
            }
        }
        fault(1, in("<a:super~>"));
        fault(1, in("<super~()>"));
        fault(1, in("<[~if]>"));
        fault(1, in("<[~endif]>"));
        fault(1, in("<(~else)>"));
        fault(1, in("<t(~elseif)>"));
        House h = new House();
        h.main("main() ::= \"<delimiters><import><default><key><end><separator><wrap><i><_>\"");
        House.due("these are NAMEs in a TAG", h.x.look(4), 9);
        h = new House();
        h.is("main(end, null) ::= \"<end; null=null><@e>1<@end><if(end)><endif>\"", "1", "");
    }

    private static void numbers() {
        for (char c = ' '; c <= '~'; c++) {
            if (c != '/' && c != ' ') {
                House h = new House();
                h.file(0, "import " + c);
                boolean is = c >= '0' && c <= '7';
                House.due("import " + c, h.load(0), is ? "5@0:7" : "1@0:7");
            }
        }
        House h = new House();
        h.file(7, "a() ::= \"7\"");
        h.file(0, "import 7import\n7b() ::= \"<a()>\"");
        House.due("one digit", h.load(0), "2");
        h.file(0, "import 77");
        House.due("two digits", h.load(0), "1@0:8");
        h.file(0, "import -7");
        House.due("a sign", h.load(0), "1@0:7");
        h.file(0, "import7");
        House.due("a NAME", h.load(0), "1@0:7");
        h.file(0, "b() ::= \"\" import 7");
        House.due("behind a DEFINITION", h.load(0), "1@0:11");
        h.file(0, "import 7 delimiters \"$\", \"$\"");
        House.due("ahead of delimiters", h.load(0), "1@0:9");
        h.file(0, "delimiters \"$\",\"$\"import 7 b() ::= \"$a()$\"");
        House.due("behind delimiters", h.load(0) + h.text("b"), "27");
    }

    /** "its bytes, \n being a NEWLINE, \t 9, and \ with another byte that byte (a \ at its end is itself)" */
    private static void strings() {
        text("main(a=\"\\n\\t\\\\\\x\\'\\>\") ::= \"<a>\"", "\n\t\\x'>");
        text("main(a=\"\\\",b=\"x\\\") ::= \"<a><b>\"", "\\x\\");
        text("main(a=\"\",b=\"'<a>{\") ::= \"<a><b>\"", "'<a>{");
        text("main() ::= <<<'\\n\\t\\\\\\x\\'><''><\"\\\"><\"'\"><'\"'>\n>>", "\n\t\\x\\\\'\"");
        text("d ::= [\"\":\"e\", \"\\n\":\"n\", \"\\\":\"b\", \"a\\b\":\"ab\"] main() ::= \"<d.('')><d.('\\n')><d.('\\')><d.ab>\"", "enbab");
        fault(1, "a(b=\"~\n\") ::= \"\"");
        fault(1, "a(b=\"\\~\n\") ::= \"\"");
        fault(1, "a(b=\"x~");
        fault(1, "d ::= [\"~\n\":true]");
        fault(1, "d ::= [\"k\":\"~\n\"]");
        fault(1, "d ::= [\"k\":\"\\~");
        fault(1, "d ::= [\"~");
        fine("a() ::= \"\\\"");
        fault(1, "a() ::= \"~\n\"");
        fault(1, "a() ::= <<<'~\n'>\n>>");
        fault(1, "a() ::= <<<\"~\n\">\n>>");
        fault(1, "a() ::= <<<'\"\n~>>");
        fault(1, "a() ::= \"<'x~\"");
        fault(1, "a() ::= <<<\"'~>>");
        fault(1, "a() ::= <%<'~%>");
        fault(3, "d ::= [\"\\n\":true, ~\"\\n\":true]");
        fault(3, "d ::= [\"x\":true, ~\"\\x\":true]");
        fault(3, "d ::= [\"\":true, \"a\":true, ~\"\":true]");
        fine("d ::= [\"\\n\":true, \"n\":true, \"\\t\":true, \"t\":true, \"N\":true]");
    }

    private static void bodies() {
        text("main() ::= \"\"", "");
        text("main() ::= <<>>", "");
        text("main() ::= <<\n>>", "");
        text("main() ::= <<\n\n>>", "");
        text("main() ::= <<\n\n\n>>", "\n");
        text("main() ::= << \n>>", " ");
        text("main() ::= <<\n >>", " ");
        text("main() ::= <<a\n\n>>", "a\n");
        text("main() ::= <<\n\na>>", "\na");
        text("main() ::= <<>a>>", ">a");
        text("main() ::= <<% %>>", "% %");
        text("main() ::= <%%>", "");
        text("main() ::= <%\n%>", "");
        text("main() ::= <% \n\t\n %>", " ");
        text("main() ::= <%a\n \t b\n>%>", "ab>");
        text("main() ::= <%>%%>", ">%");
        fault(1, "a() ::= ~< < >>");
        fault(1, "a() ::= ~<");
        fault(1, "a() ::= ~'a'");
        fault(1, "a() ::= ~{a}");
        fault(1, "a() ::= ~true");
        fault(1, "a() ::= ~[]");
        fault(1, "a() ::= ~b");
        fault(1, "a() ::=~");
        fault(1, "a() ::= <<~");
        fault(1, "a() ::= <<>~");
        fault(1, "a() ::= <<> >~");
        fault(1, "a() ::= <%~");
        fault(1, "a() ::= <%>~");
        fault(1, "a() ::= <% >>~");
        fault(1, "a() ::= <<x>>~>");
        fault(1, "a() ::= <%x%>~>");
        fault(1, "a() ::= \"x\"~\"\"");
        // without its end there is nothing that stands between: no FAULT is in it
        fault(1, "a() ::= <<<b c> <9> ~");
        fault(1, "a() ::= <<<\\x> <aaaaaaaaaaaaaaaaa>%>~");
        fault(1, "a() ::= <<<if(true)><@end>\n>\n~");
        fault(1, "a() ::= <%<b c>>>~");
        fault(1, "a() ::= <%<@r()><@r()>>~");
        fault(1, "a() ::= \"<b c>~");
        fault(1, "a() ::= \"<b c>~\n\"");
        fault(1, "@a.b() ::= <<<@c()>~");
        fault(1, "a() ::= <<<b ~c>>>");
        fault(1, "a() ::= <<<if(true)>\n~>>");
        fault(1, "a() ::= <<\n<if(true)>\n\n~>>");
        fault(1, "a() ::= <%<if(true)>\n ~%>");
        fault(1, "a() ::= \"<if(true)>~\"");
    }

    /** "one byte each, none of these a letter, digit, BLANK or one of ..." */
    private static void delimiters() {
        String none = "\"'(){}[],.:;=|!&@\\_ \t";
        for (char c = ' '; c <= '~'; c++) {
            boolean may = none.indexOf(c) < 0 && !(c >= 'a' && c <= 'z' || c >= 'A' && c <= 'Z' || c >= '0' && c <= '9');
            House h = new House();
            h.file(0, "delimiters \"" + c + "\",\"" + c + "\" main() ::= <%" + c + "'x'" + c + "%>");
            House.due("OPEN " + c, h.load(0), may ? "1" : "2@0:11");
            House.due("its text", h.text("main"), may ? "x" : "ISE");
            h = new House();
            h.file(0, "delimiters \"#\",\"" + c + "\" main() ::= <%#'x'" + c + "%>");
            House.due("CLOSE " + c, h.load(0), may ? "1" : "2@0:15");
        }
        fault(2, "delimiters ~\"\",\"$\"");
        fault(2, "delimiters ~\"$$\",\"$\"");
        fault(2, "delimiters ~\"\\n\",\"$\"");
        fault(2, "delimiters ~\"\t\",\"$\"");
        fault(2, "delimiters \"$\",~\"\"");
        fault(2, "delimiters \"$\",~\"$$\"");
        fault(2, "delimiters ~\"a\" x");
        fault(1, "delimiters \"~\n\",\"$\"");
        fault(1, "delimiters \"$~");
        fault(1, "delimiters ~'$','$'");
        fault(1, "delimiters~");
        fault(1, "delimiters \"$\"~");
        fault(1, "delimiters \"$\"~::=\"$\"");
        fault(1, "delimiters \"$\",~");
        fault(1, "delimiters \"$\",\"$\"~,");
        fault(1, "delimiters \"$\",\"$\" ~delimiters \"$\",\"$\"");
        text("delimiters \"$\",\"#\" main() ::= <%<a>\\<\\$\\#$\\n#$!$#!#$'#'#%>", "<a>\\<$\\#\n#");
        text("delimiters \"%\",\"%\" main() ::= \"%if(true)%a%else%b%endif%\\%%!x!%\"", "a%");
    }

    private static void parameters() {
        fine("a() ::= \"\"");
        fine("a(b) ::= \"\"");
        fine("a(b,c=\"\",d=true,e=false,f=[],g={},h=[\n/**/]) ::= \"\"");
        fault(1, "a(~,) ::= \"\"");
        fault(1, "a(b~;) ::= \"\"");
        fault(1, "a(b,~) ::= \"\"");
        fault(1, "a(~\"b\") ::= \"\"");
        fault(1, "a(~1) ::= \"\"");
        fault(1, "a(b=~) ::= \"\"");
        fault(1, "a(b=~c) ::= \"\"");
        fault(1, "a(b=~1) ::= \"\"");
        fault(1, "a(b=~truex) ::= \"\"");
        fault(1, "a(b=~key) ::= \"\"");
        fault(1, "a(b=~<<x>>) ::= \"\"");
        fault(1, "a(b=~'x') ::= \"\"");
        fault(1, "a(b=[~\"\"]) ::= \"\"");
        fault(1, "a(b=[~,]) ::= \"\"");
        fault(1, "a(b=[~");
        fault(1, "a(b=true ~c) ::= \"\"");
        fault(1, "a(b=true~=true) ::= \"\"");
        fault(1, "a(b ~::= true) ::= \"\"");
        fault(1, "a(b=~={}) ::= \"\"");
        fault(3, "a(b=\"\",~c) ::= \"\"");
        fault(3, "a(b,c={},d=true,~e) ::= \"\"");
        fault(3, "a(b=true,~c");
        fault(3, "a(b=true,~c /*");
        fault(3, "a(b=true,~c /**/ x");
        fault(1, "a(b=true,c /**/ = /*~");
        fault(3, "a(b,~b");
        fault(3, "a(b,~b=true) ::= \"\"");
        fault(3, "a(b=true,~b /*");
        fine("a(b,B) ::= \"\"");
    }

    private static void entries() {
        fine("d ::= [\"k\":\"v\"]");
        fine("d ::= [\"k\":key,\"l\":true,\"m\":false,\"n\":{},default:{}]");
        fine("d ::= [default:key]");
        fault(1, "d ::= [~]");
        fault(1, "d ::= [~,]");
        fault(1, "d ::= [~k:true]");
        fault(1, "d ::= [~{}:true]");
        fault(1, "d ::= [~'k':true]");
        fault(1, "d ::= [\"k\"~]");
        fault(1, "d ::= [\"k\":~]");
        fault(1, "d ::= [\"k\":~[]]");
        fault(1, "d ::= [\"k\":~default]");
        fault(1, "d ::= [\"k\":~keys]");
        fault(1, "d ::= [\"k\":~1]");
        fault(1, "d ::= [\"k\":key~:key]");
        fault(1, "d ::= [\"k\":key,~]");
        fault(1, "d ::= [\"k\":key,~,]");
        fault(1, "d ::= [\"k\":key ~\"l\":key]");
        fault(1, "d ::= [default~]");
        fault(1, "d ::= [default:~default]");
        fault(1, "d ::= [default:key~,]");
        fault(1, "d ::= [default:key~,\"k\":key]");
        fault(1, "d ::= [default:key~,default:key]");
        fault(1, "d ::= [\"default\":true,~x:true]");
        fault(1, "d ::= [\"k\":key~)");
        fault(1, "d ::= [\"k\":{x~");
        fault(1, "d() ~[\"k\":key]");
        fault(3, "d ::= [\"k\":key,\"l\":key,~\"k\"");
        fine("d ::= [\"default\":true,default:true]");
    }

    // ---- TEXTS and TAGS

    private static void escapes() {
        text("main() ::= \"\\<\\\\\\}\"", "<\\}");
        text("main() ::= \"\\>\\{\\n\\ \\a\\'\\\"", "\\>\\{\\n\\ \\a\\'\\");
        text("main() ::= \"\\\\\\<\"", "\\<");
        text("main() ::= \"\\\\<true>\"", "\\true");
        text("main() ::= \"}{}\"", "}{}");
        text("main() ::= \"<{a\\}b}><{a\\\\}><{a{b}>}>\"", "a}ba\\a{b}>");
        text("main(a={\\}}) ::= \"<a>\"", "}");
        text("main(a={<'}'>}) ::= \"<a>\"", "}");
        fault(1, "a() ::= \"<{a\\}>~\"");
        fault(1, "a() ::= \"<{a}~}>\"");
        fault(1, "a(b={\\}~");
        fault(1, "a() ::= \"<{<a~}>\"");
        text("delimiters \"$\",\"$\" main() ::= \"\\$\\<\\}\"", "$\\<}");
    }

    private static void bytesInTags() {
        text("main() ::= \"<\\n><\\t><\\ ><\\n\\n\\t\\ \\ >\"", "\n\t \n\n\t  ");
        for (char c = ' '; c <= '~'; c++) {
            if (c != 'n' && c != 't' && c != ' ' && c != '\\' && c != '"') {
                fault(1, "a() ::= <%<\\~" + c + ">%>");
            }
        }
        fault(1, in("<\\~>"));
        fault(1, in("<\\n~ >"));
        fault(1, in("< ~\\n>"));
        fault(1, in("<\\n\\~>"));
        fault(1, in("<\\n\\~\\>"));
        fault(1, in("<\\n~n>"));
        fault(1, in("<\\n~;wrap>"));
        fault(1, "a() ::= \"<\\~\"");
        fault(1, "a() ::= \"<\\n~\"");
        fault(1, "a() ::= <<<\\n~\n>\n>>");
    }

    /** "nothing, and the BLANKS that follow, up to and with the first NEWLINE, and the 32 and 9 behind" */
    private static void joinedLines() {
        text("main() ::= <<a<\\\\>\nb>>", "ab");
        text("main() ::= <<a <\\\\> \t \n \t b>>", "a b");
        text("main() ::= <<a<\\\\>\n\nb>>", "a\nb");
        text("main() ::= <<a<\\\\>\n<\\\\>\n  b>>", "ab");
        text("main() ::= <<a<\\\\>\n >>", "a");
        text("main() ::= <<a<\\\\>\n\n>>", "a");
        text("main() ::= <<<{a<\\\\>\n }>b\n>>", "ab");
        fault(1, "a() ::= <<\n<\\\\>\n~>>");
        fault(1, "a() ::= <<<\\\\~>>");
        fault(1, "a() ::= <<<\\\\> \t~>>");
        fault(1, "a() ::= <<<\\\\> ~a\n>>");
        fault(1, "a() ::= <<<\\\\>~<\\\\>\n\n>>");
        fault(1, "a() ::= \"<\\\\>~\"");
        fault(1, "a() ::= <%<\\\\>\n~%>");
        fault(1, "a() ::= <%<\\\\>\n ~b%>");
        fault(1, "a() ::= <<<\\\\~ >\n>>");
        fault(1, "a() ::= <<<\\\\~\\>\n>>");
        fault(1, "a() ::= <<<{<\\\\> ~}>\n>>");
        fault(1, "a() ::= <<<\\\\~");
    }

    private static void comments() {
        text("main() ::= \"a<!!>b<! <x> } \\!>c<!!!>d<!>!>e\"", "abcde");
        text("main() ::= <<a<!\n\n!>b>>", "ab");
        fault(1, "a() ::= \"<!~\"");
        fault(1, "a() ::= \"<!>~\"");
        fault(1, "a() ::= \"<!x! >~\"");
        fault(1, "a() ::= \"<!x>~\"");
        fault(1, "a() ::= \"< ~!x!>\"");
        fault(1, "a() ::= <<<!!\n~>>");
        fault(1, "a() ::= \"<{<!}>~\"");
        fault(1, "d ::= [default:{<!}]~");
    }

    private static void branches() {
        fine(in("<if(a)><endif>"));
        fine(in("<if(a)><else><endif>"));
        fine(in("<if(a)><elseif(b)><endif>"));
        fine(in("< if ( a ) >< elseif ( b ) ><elseif(a)>< else >< endif >"));
        fine(in("<if(a)>" + "<elseif(b)>".repeat(100) + "<else><endif>"));
        fault(1, in("<if(a)>~"));
        fault(1, in("<if(a)><elseif(b)>~"));
        fault(1, in("<if(a)><else>~"));
        fault(1, in("<if(a)><else><~else><endif>"));
        fault(1, in("<if(a)><else><~elseif(b)><endif>"));
        fault(1, in("<if(a)><endif><~endif>"));
        fault(1, in("<if(a)><endif><~else>"));
        fault(1, in("<~elseif(a)>"));
        fault(1, in("<~else x"));
        fault(1, in("<if~>"));
        fault(1, in("<if(~)><endif>"));
        fault(1, in("<if(a~><endif>"));
        fault(1, in("<if(a) ~a><endif>"));
        fault(1, in("<if(a)~;wrap><endif>"));
        fault(1, in("<if(a)><elseif~><endif>"));
        fault(1, in("<if(a)><else~(a)><endif>"));
        fault(1, in("<if(a)><endif~;>"));
        fault(1, in("<if(a)><{<~endif>}>"));
        fault(1, in("<if(a)><{<~else>}><endif>"));
        fault(1, in("<@r><~endif><@end>"));
        fault(1, in("<if(a)><@r><~else><@end><endif>"));
        fault(1, in("<if(a)><@r><~endif>"));
        fault(1, in("<{<if(a)>~}><endif>"));
    }

    private static void regionPlaces() {
        fine(in("<@r()><@s><@end>"));
        fine(in("<if(a)><@r()><else><@s><@end><endif>"));
        fine(in("<{<@r()>}><a:{x|<@s><@v()><@end>}><if({<@u()>}.x)><endif>"));
        fault(1, "a(b={<~@r()>}) ::= \"\"");
        fault(1, "a(b={<~@r><@end>}) ::= \"\"");
        fault(1, "a(b={<{<~@r()>}>}) ::= \"\"");
        fault(1, "a(b={<~@super>}) ::= \"\"");
        fault(1, "d ::= [\"k\":{<~@r()>}]");
        fault(1, "d ::= [default:{<~@r>}]");
        fault(1, "a() ::= \"<@s()>\" d ::= [default:{<~@r()>}]");
        fault(1, "a() ::= \"<@s()>\" b(c={<~@r()>}) ::= \"\"");
        fault(1, "a() ::= \"<@s()>\" @a.s() ::= \"\" d ::= [default:{<~@super.s()>}]");
        fault(1, "a() ::= \"<@s()>\" @a.s() ::= \"\" b(c={<~@super.s()>}) ::= \"\"");
        fault(1, "a(b={<~@r()>}) ::= \"<@r()>\"");
        fault(1, "@a.r() ::= \"<~@r()>\"");
        fault(1, "@a.r() ::= \"<~@r>\"");
        fault(1, "@a.r() ::= \"<{<~@s()>}>\"");
        fault(1, in("<~@super.r()>"));
        fault(1, in("<~@super()>"));
        fault(1, in("<~@super>"));
        fault(1, in("<@r><~@super.r()><@end>"));
        fault(1, "d ::= [\"k\":{<~@super.r()>}]");
        fault(1, "@a.r() ::= \"<~@super.s()>\"");
        fault(1, "@a.r() ::= \"<~@super.rr()>\"");
        fault(1, "@a.rr() ::= \"<~@super.r()>\"");
        fault(9, "@a.~r() ::= \"<@super.r()><{< @ super . r ( ) >}>\"");
        fault(3, in("<@r()><@~r()>"));
        fault(3, in("<@r><@~r()><@end>"));
        fault(3, in("<@r><@end><{<@~r><@end>}>"));
        fine("a() ::= \"<@r()>\" b() ::= \"<@r()>\" @a.r() ::= \"\" @b.r() ::= \"\"");
    }

    private static void regionWords() {
        fault(1, in("<@~>"));
        fault(1, in("<@~()>"));
        fault(1, in("<@~'r'()>"));
        fault(1, in("<@~{}>"));
        fault(1, in("<@~9()>"));
        fault(1, "@a.r() ::= \"<@~>\"");
        fault(1, "@a.r() ::= \"<@~.\"");
        fault(1, "@a.r() ::= \"<~@if>\"");
        fault(1, in("<@r~.s()>"));
        fault(1, in("<@r(~a)>"));
        fault(1, in("<@r()~;wrap>"));
        fault(1, in("<@r ~;>"));
        fault(1, in("<@r()~"));
        fault(1, "@a.r() ::= \"<@super~()>\"");
        fault(1, "@a.r() ::= \"<@super.~()>\"");
        fault(1, "@a.r() ::= \"<@super.~first()>\"");
        fault(1, "@a.r() ::= \"<@super.~1()>\"");
        fault(1, "@a.r() ::= \"<@super.r~>\"");
        fault(1, "@a.r() ::= \"<@super.r(~x)>\"");
        fault(1, "@a.r() ::= \"<@super.r()~.\"");
        fault(1, in("<@~end>"));
        fault(1, in("<@~end()>"));
        fault(1, in("<@ ~end x"));
        fault(1, in("<@r><@end><@~end>"));
        fault(1, in("<@r><if(a)><@~end><endif><@end>"));
        fault(1, in("<@r><{<@~end>}><@end>"));
        fault(1, in("<@r><@end~()>"));
        fault(1, "a(b={<@~end>}) ::= \"\"");
        fault(1, "@a.r() ::= \"<@~end>\"");
        fault(1, "d ::= [default:{<@~end>}]");
        fault(1, in("<@r>~"));
        fault(1, in("<@r><@s><@end>~"));
        fault(1, in("<{<@r>~}><@end>"));
        fine(in("<@endx()><@ends><@end><@_end()>"));
        fault(1, in("<@r><@xnd><@end>~"));
        fault(1, in("<@r><@enx>~"));
        fault(1, in("<@xuper~.r()>"));
        fault(1, "@a.r() ::= \"<~@xuper.r()>\"");
        fault(1, "@a.r() ::= \"<~@supex.r()>\"");
        fine(in("<xf><ix><xrue><trux><xirst><firsx><xuper><First><If><TRUE>"));
        fault(1, in("<a; ~xeparator=a>"));
        fault(1, in("<a; ~wrax>"));
        fault(1, in("<xf(a)><~endif>"));
        fault(9, "a() ::= \"<@r()>\" @a.~end() ::= \"<@super.end()>\"");
    }

    private static void options() {
        String[] all = {"separator", "null", "format", "wrap", "anchor"};
        fine(in("<a; separator=a, null=a, format=a, wrap=a, anchor=a>"));
        fine(in("<a;anchor,wrap,format=a,null=a,separator=a>"));
        for (String o : all) {
            boolean alone = o.equals("wrap") || o.equals("anchor");
            fine(in("<a;" + o + "=a>"));
            fault(3, in("<a;" + o + "=a,~" + o + "=a>"));
            fault(3, in("<a;" + o + "=a,~" + o + "!"));
            fault(1, in("<a;" + o + "=~>"));
            fault(1, in("<a;" + o + "=a~=a>"));
            fault(1, in("<a;~" + o + "s=a>"));
            fault(1, in("<a;" + o + "=a,~>"));
            if (alone) {
                fine(in("<a;" + o + ">"));
                fault(3, in("<a;" + o + ",~" + o + "=a>"));
            } else {
                fault(1, in("<a;" + o + "~>"));
                fault(1, in("<a;" + o + "~,wrap>"));
            }
        }
        fault(1, in("<a;~>"));
        fault(1, in("<a;~,wrap>"));
        fault(1, in("<a;wrap~;anchor>"));
        fault(1, in("<a;~'wrap'>"));
        fault(1, in("<a;wrap=a,~b>"));
        fault(1, in("<~;wrap>"));
        fault(1, in("<a;wrap=a,anchor~:{}>"));
        fine(in("<a;wrap=a:{}:t()>"));
        fault(1, in("<a;wrap=a:{},~{}>"));
    }

    private static void members() {
        fine(in("<a><a.b><a.b.c><a.(b).(c.d).e>"));
        fine(in("<'s'><\"s\"><true><false><{}><[]><[ ]><[,]><[a]><[a,]><[,a]><[,,]><[a,b]>"));
        fine(in("<t(a)><first(a)><(a)><('t')()><('t')(a,b)><('t')(c=a)>"));
        fine(in("<'s'.a><true.b><{}.c><[].d><t(a).e><first(a).f><(a).g><('t')().h>"));
        fault(1, in("<~>"));
        fault(1, in("<~.a>"));
        fault(1, in("<~1>"));
        fault(1, in("<~->"));
        fault(1, in("<a.~>"));
        fault(1, in("<a.~.b>"));
        fault(1, in("<a.~'b'>"));
        fault(1, in("<a.~1>"));
        fault(1, in("<a.(~)>"));
        fault(1, in("<a.(b~,c)>"));
        fault(1, in("<(a~,b)>"));
        fault(1, in("<(~)>"));
        fault(1, in("<('t')()~()>"));
        fault(1, in("<'t'~()>"));
        fault(1, in("<true~()>"));
        fault(1, in("<a.b~()>"));
        fault(1, in("<[a~;b]>"));
        fault(1, in("<[a~>"));
        fault(1, in("<a ~b>"));
        fault(1, in("<a~=b>"));
        fault(1, in("<first~>"));
        fault(1, in("<first~.a>"));
        fault(1, in("<first(~)>"));
        fault(1, in("<first(a~,b)>"));
        fault(1, in("<first(x~=a)>"));
        fine(in("<a:t()><a:{}><a:('t')()><a:t(),{},('t')()><a:t():t()><[a:t():{}]>"));
        fault(1, in("<a:~>"));
        fault(1, in("<a:a~>"));
        fault(1, in("<a:~'t'()>"));
        fault(1, in("<a:~[]>"));
        fault(1, in("<a:(b)~>"));
        fault(1, in("<a:(~)()>"));
        fault(1, in("<a:t(),~>"));
        fault(1, in("<a:t()~.b>"));
        fault(1, in("<[a:t(),b:{}~;]>"));
        fault(1, in("<(a:t()~,{})>"));
        fine(in("<a,b:{x,y|}><a,b,a:{x,y,z|}; wrap>"));
        fault(1, in("<a,b~>"));
        fault(1, in("<a,b~;wrap>"));
        fault(1, in("<a,~:{x|}>"));
        fault(1, in("<a,b:~t()>"));
        fault(1, in("<a,b:~('t')()>"));
        fault(1, in("<a,b:{x,y|}~,{x,y|}>"));
        fault(1, in("<a,b:{x,y|}~:{}>"));
        fault(1, in("<a:{},b~:{x,y|}>"));
        fault(7, in("<[a,b:~{x,y|}]>"));
    }

    private static void arguments() {
        String t = "u(p=\"\",q=\"\",r=\"\") ::= \"\" ";
        fine(t + in("<u()><u( )><u(a)><u(a,b)><u(p=a)><u(p=a,r=b)><u(p=a,...)><u(p=a,q=a,r=a,...)><u(...)><u( ... )>"));
        fault(1, t + in("<u(~,)>"));
        fault(1, t + in("<u(a,~)>"));
        fault(1, t + in("<u(a,~,b)>"));
        fault(1, t + in("<u(a~;b)>"));
        fault(1, t + in("<u(a,~...)>"));
        fault(1, t + in("<u(a,b~=a)>"));
        fault(1, t + in("<u('p'~=a)>"));
        fault(1, t + in("<u(a.p~=a)>"));
        fault(1, t + in("<u(p=a,~)>"));
        fault(1, t + in("<u(p=~)>"));
        fault(1, t + in("<u(p=~,q=a)>"));
        fault(1, t + in("<u(p=a~=b)>"));
        fault(1, t + in("<u(p=a,~'b')>"));
        fault(1, t + in("<u(p=a,q~)>"));
        fault(1, t + in("<u(p=a,q~.a=b)>"));
        fault(1, t + in("<u(p=a,...~,q=a)>"));
        fault(1, t + in("<u(...~,p=a)>"));
        fault(1, t + in("<u(...~...)>"));
        fault(1, t + in("<u(~..)>"));
        fault(1, t + in("<u(~. ..)>"));
        fault(1, t + in("<u(p=a,~..)>"));
        fault(1, t + in("<u(...~.)>"));
        fault(1, t + in("<u(a.~..)>"));
        fault(1, t + in("<u(p=a.~..)>"));
        fault(1, t + in("<u(~1=a)>"));
        fault(1, t + in("<u(~1)>"));
        fault(1, t + in("<u(~=a)>"));
        fault(1, t + in("<u(p=a,~1=a)>"));
        fault(3, t + in("<u(p=a,~p=a)>"));
        fault(3, t + in("<u(p=a,q=a,~p)>"));
        fault(1, t + in("<u(a~"));
        fault(1, t + in("<u(~"));
        fault(8, t + in("<u(p=a,~P=a)>"));
        fine(t + in("<('u')(z=a,p=a,...)><a:u(p=a)><a:('u')(...)>"));
        fault(3, t + in("<('u')(z=a,~z=b)>"));
    }

    private static void conditions() {
        fine(in("<if(a&&b||!a&&(b||!(a)))><endif>"));
        fine(in("<if(first(a)&&{}.b||[a]||'s'&&!!true)><endif>"));
        fault(1, in("<if(a~|b)><endif>"));
        fault(1, in("<if(a~&b)><endif>"));
        fault(1, in("<if(a~| |b)><endif>"));
        fault(1, in("<if(a||~)><endif>"));
        fault(1, in("<if(a||~||b)><endif>"));
        fault(1, in("<if(a&&~)><endif>"));
        fault(1, in("<if(a&&~&b)><endif>"));
        fault(1, in("<if(!~)><endif>"));
        fault(1, in("<if(a~!b)><endif>"));
        fault(1, in("<if(a~==b)><endif>"));
        fault(1, in("<if(a~:t())><endif>"));
        fault(1, in("<if(a~,b)><endif>"));
        fault(1, in("<if((~))><endif>"));
        fault(1, in("<if((a)~.b)><endif>"));
        fault(1, in("<if(('t')~())><endif>"));
        fault(1, in("<if((a)~><endif>"));
        fault(1, in("<if(a)~)><endif>"));
        fault(1, in("<if(~if)><endif>"));
        fault(1, in("<if(a)><elseif(a~|b)><endif>"));
    }

    /** "if behind { .. just such a row of NAMEs with a , between each two, and a | stand" */
    private static void subParameters() {
        text("main() ::= \"<['v']:{x|<x>}><['v']:{ x | x<x>}>\"", "v xv");
        text("main() ::= <<\n<['v']:{\n\tx\n|\n<x>}>\n>>", "\nv");
        text("main() ::= \"<{x}><{|}><{x,|}><{,x|}><{x y|}><{1|}><{x;|}><{x||y}><{'x'|}>\"", "x|x,|,x|x y|1|x;||y'x'|");
        text("main() ::= \"<{x,y|}><{x , y|z}><{x,y,}><{ }><{}>\"", "zx,y, ");
        text("main() ::= \"<{x\\\\|y}><{<'x'>|y}><{x<\\n>|}>\"", "x\\|yx|yx\n|");
        text("main() ::= \"<{if,first,super,true,end,key|k}>\"", "k");
        fine(in("<{a,b,c,d,e,f,g,h,i,j,k,l|}>"));
        fault(4, in("<{a,b,c,d,e,f,g,h,i,j,k,l,~m|}>"));
        fault(4, in("<{a,b,c,d,e,f,g,h,i,j,k,l,~m,n|<"));
        fault(3, in("<{a,b,c,d,e,f,g,h,i,j,k,l,~a|}>"));
        fault(2, in("<{a,b,c,d,e,f,g,h,i,j,k,l,~" + N17 + "|}>"));
        fault(3, in("<{a,b,~a|}>"));
        fault(3, in("<{if,~if|}>"));
        text("main() ::= \"<{a,b,c,d,e,f,g,h,i,j,k,l,m}><{a,a}><{" + N17 + "}><{" + N17 + ",}>\"",
            "a,b,c,d,e,f,g,h,i,j,k,l,ma,a" + N17 + N17 + ",");
        fault(2, in("<{~" + N17 + "|}>"));
        fault(2, in("<{a,b,~" + N17 + ",a|}>"));
        fault(2, "a(b={~" + N17 + "|}) ::= \"\"");
        fault(4, "d ::= [default:{a,b,c,d,e,f,g,h,i,j,k,l,~m|}]");
    }
}
