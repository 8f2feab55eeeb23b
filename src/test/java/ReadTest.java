/** Promises 5 and 6: what is read and checked, and each FAULT at its place. */
public final class ReadTest {
    private static House h = new House();

    /** The FAULT of file 0, in which the place is marked by a ~ that is taken away. */
    private static void fault(int number, String marked) {
        House.fault(number, marked);
    }

    private static void fine(String s) {
        House.fine(s);
    }

    private static String in(String tag) {
        return "main(a, b) ::= <%" + tag + "%>";
    }

    private static String inLines(String tag) {
        return "main(a, b) ::= <<" + tag + "\n>>";
    }

    public static void main(String[] args) {
        words();
        heads();
        definitions();
        texts();
        tags();
        expressions();
        regions();
        threes();
        parts();
        imports();
        checks();
        has();
        answers();
        House.over();
    }

    private static void words() {
        fine("// c\n/* d */ /*/ e */ a /**/ ( // f\n ) ::= \"\" // end");
        fault(1, "a() ::= \"\" /* x~");
        fault(1, "a() ::= \"\" /*/~");
        fault(1, "a() ~/ ::= \"\"");
        fault(1, "~9a() ::= \"\"");
        fine("_9aZ() ::= \"\"");
        fine("abcdefghijklmnop() ::= \"\"");
        fault(2, "~abcdefghijklmnopq() ::= \"\"");
        fault(1, "a() ::= \"x~\ny\"");
        fault(1, "a() ::= \"x~");
        fault(1, "a() ::= <<x~");
        fault(1, "a() ::= <%x>~");
        fault(1, "a() ::= ~'x'");
        fault(1, "a() ::= ~<x>");
        fine("a() ::= <<>> b() ::= <%%> c() ::= \"\"");
        fault(1, "a() ~: := \"\"");
        fault(1, "a()~");
        fault(1, "a(~");
        fault(1, "a~");
        fault(1, "a() ::= \"\" ~,");
    }

    private static void heads() {
        fine("delimiters \"<\" , \">\"");
        fine("delimiters\"%\",\"%\" a() ::= \"%a%<>\"");
        fault(2, "delimiters ~\"a\", \">\"");
        fault(2, "delimiters \"<\", ~\"\"");
        fault(2, "delimiters ~\"<<\" \">\"");
        for (char c : "9_ \t'(){}[],.:;=|!&@\\".toCharArray()) {
            fault(2, "delimiters ~\"" + c + "\", \">\"");
        }
        for (char c : "#$%*+-/<>?^`".toCharArray()) {
            fine("delimiters \"" + c + "\", \">\"");
        }
        fault(1, "delimiters ~x");
        fault(1, "delimiters \"$\" ~\"$\"");
        fault(1, "a() ::= \"\" ~delimiters \"$\", \"$\"");
        fault(1, "import ~8");
        fault(1, "import ~x");
        fault(5, "import ~0");
        fault(5, "import ~3");
        fault(1, "import~");
        fault(1, "a() ::= \"\" ~import 1");
        h.file(1, "b() ::= \"\"");
        h.file(0, "import 1import/**/1 a() ::= \"\"");
        House.due("twice", h.load(0), "2");
        h.file(0, "import 12");
        House.due("one digit", h.load(0), "1@0:8");
    }

    private static void definitions() {
        fine("a(b) ::= \"\" c(d,e=\"\",f={x|y},g=true,h=false,i=[ ]) ::= \"\"");
        fault(1, "a(~,b) ::= \"\"");
        fault(1, "a(b,~) ::= \"\"");
        fault(1, "a(b ~c) ::= \"\"");
        fault(1, "a(b=~c) ::= \"\"");
        fault(1, "a(b=[~x]) ::= \"\"");
        fault(1, "a(b={x~");
        for (String w : new String[] {"import", "default", "key", "true", "false", "delimiters"}) {
            fault(1, "a(~" + w + ") ::= \"\"");
            fault(1, "x ::= ~" + w);
        }
        fine("if(first,super) ::= \"\"");
        fine("a() ::= \"\" b ::= a c ::= b");
        fine("d ::= [\"k\":\"v\", \"\":{<a>}, \"l\":key, \"m\":true, default:false]");
        fine("d ::= [default:key]");
        fault(1, "d ::= [~]");
        fault(1, "d ::= [\"k\":~v]");
        fault(1, "d ::= [\"k\" ~\"v\"]");
        fault(1, "d ::= [\"k\":true,~]");
        fault(1, "d ::= [default:true~, \"k\":true]");
        fault(1, "d ::= [\"k\":true ~\"l\":true]");
        fault(1, "d ::= [\"k\":true~");
        fault(1, "d ::= [\"k\"~::=\"v\"]");
        fault(1, "d ::= [\"k\" // c\n ~::= true]");
        fault(1, "d ::= [default~::=key]");
        fault(1, "d ::= [\"k\": ~::=true]");
        fault(1, "d ::= [\"k\":~:true]");
        fault(1, "d ::= [\"k\":~: =true]");
        fault(1, "d ::= [\"k\":~=true]");
        fault(1, "d ~::[\"k\":true]");
        fault(1, "a(b~::=\"\") ::= \"\"");
        fault(1, "a()::=~::=\"\"");
        fault(1, "a ::= ~\"x\"");
        fault(1, "@a ~b() ::= \"\"");
        fault(1, "@a.b(~c) ::= \"\"");
        fault(1, "@~default.b() ::= \"\"");
        fault(2, "@a.~bcdefghijklmnopqr() ::= \"\"");
    }

    private static void texts() {
        fault(1, "a() ::= \"<b~\"");
        fault(1, "a() ::= <<<b\n~>>");
        fault(1, "a() ::= <<\\<<!x!~>>");
        fault(1, "a() ::= \"<!>~\"");
        fine("a() ::= \"<!!>\\<\\\\\\}\\>\\x\"");
        fault(1, in("<\\n~x>"));
        fault(1, in("<\\n\\~\\>"));
        fault(1, in("<\\~x>"));
        fault(1, in("<\\n~ >"));
        fault(1, in("<\\\\~x>"));
        fault(1, inLines("<\\\\> ~x\n"));
        fault(1, in("<\\\\> ~"));
        fine(inLines("<\\\\> \t\n \tx<\\n\\t\\ >"));
        fault(1, "a() ::= <%<\\\\>\n~x%>");
        fault(1, "d ::= [\"k\":{<b>\\}~");
        fault(1, in("<{a<b~}>"));
        fault(1, in("<a~{>"));
    }

    private static void tags() {
        fine(in("<if(a)>x<elseif(b)>y<elseif(!a)>z<else>w<endif>"));
        fault(1, in("<if(a)>x~"));
        fault(1, in("<if(a)>x<else>~"));
        fault(1, in("<~else>"));
        fault(1, in("<~endif>"));
        fault(1, in("<~elseif(a)>"));
        fault(1, in("<if(a)><else><~else><endif>"));
        fault(1, in("<if(a)><else><~elseif(b)><endif>"));
        fault(1, in("<if(a)><endif ~x>"));
        fault(1, in("<if ~a>"));
        fault(1, in("<if(~)>"));
        fault(1, in("<if(a)~;wrap>"));
        fault(1, in("<if(a ~| b)>"));
        fault(1, in("<if((a)~(b))>"));
        fault(1, in("<if((a)~.b)>"));
        fine(in("<if(!(a && b) || ! !a.b && 'x')><endif>"));
        fault(1, in("<{<if(a)>x~}>"));
        fault(1, in("< ~>"));
        fault(1, in("<~)>"));
        fault(1, in("<a ~b>"));
    }

    private static void expressions() {
        fine(in("<a,b:{x,y|<x>}; separator=',', null=a, format='cap', wrap, anchor>"));
        fault(1, in("<a,b~>"));
        fault(1, in("<a,b:~main()>"));
        fault(1, in("<a,b:{x,y|}~:{x|}>"));
        fault(1, in("<a,b:{x,y|}~,{x|}>"));
        fault(1, in("<a;~>"));
        fault(1, in("<a;~nul=b>"));
        fault(1, in("<a;separator~>"));
        fault(1, in("<a;wrap=~>"));
        fault(3, in("<a;wrap,~wrap>"));
        fault(1, in("<a;~separatorabcdefghijklm=b>"));
        fault(1, in("<a.~first>"));
        fault(2, in("<~abcdefghijklmnopq>"));
        fault(2, in("<a.~abcdefghijklmnopq>"));
        fault(1, in("<first~>"));
        fault(1, in("<first(a~,b)>"));
        fault(1, in("<super~>"));
        fault(1, in("<super.~if()>"));
        fault(1, in("<super.a~>"));
        fault(1, in("<[a~;]>"));
        fault(1, in("<a:~true>"));
        fault(1, in("<a:main~>"));
        fault(1, in("<a:('main')~>"));
        fault(1, inLines("<'x~\n'>"));
        fault(1, in("<'x~"));
        fine(in("<[]><[,]><[a,,b]><(a)><('main')(a,b)><('main')(x=a,...)><('main')(...)>"));
        fault(1, in("<main(a=b,~true=a)>"));
        fault(1, in("<main(~true=a)>"));
        fault(1, in("<main(~first=a)>"));
        fault(1, in("<main(a,b~=a)>"));
        fault(1, in("<main(a,~...)>"));
        fault(1, in("<main(a=b,...~,b=a)>"));
        fault(1, in("<main(a=b,b~)>"));
        fault(1, in("<main(~..)>"));
        fault(3, in("<main(a=b,~a)>"));
        fault(1, in("<main(a=b,~9=a)>"));
        fault(2, in("<{ x , ~abcdefghijklmnopq |}>"));
        fault(3, in("<{x,~x|}>"));
        fault(4, in("<{a,b,c,d,e,f,g,h,i,j,k,l,~m|}>"));
        fine(in("<{if, first |<a>}><{a,9|}><{|}><{a,b}>"));
    }

    private static void regions() {
        fine(in("<@r()><@s>x<@u>y<@end>z<@end><{<@v()>}><@ w ( ) >"));
        fault(3, in("<@r()><@~r>x<@end>"));
        fault(1, in("<@~end>"));
        fault(1, in("<@r>x<if(a)><@~end><endif>"));
        fault(1, in("<@r>x~"));
        fault(1, in("<@r><{<@~end>}><@end>"));
        fault(1, in("<@~if()>"));
        fault(1, in("<@~>"));
        fault(1, in("<@~(>"));
        fault(1, in("<@r(~x)>"));
        fault(1, in("<@r~ x>".replace("~ x", " ~x")));
        fault(2, in("<@~abcdefghijklmnopq>"));
        fault(1, in("<~@super.r()>"));
        fault(1, in("<~@super>"));
        fault(1, "a(b={<~@r()>}) ::= \"\"");
        fault(1, "a(b={<~@super.r()>}) ::= \"\"");
        fault(1, "a(b={<@~end>}) ::= \"\"");
        fault(1, "d ::= [\"k\":{<~@if>}]");
        fault(1, "@a.r() ::= \"<~@s()>\"");
        fault(1, "@a.r() ::= \"<~@first()>\"");
        fault(1, "@a.r() ::= \"<~@super.s()>\"");
        fault(1, "@a.r() ::= \"<~@super.abcdefghijklmnopq()>\"");
        fault(1, "@a.r() ::= \"<@super~>\"");
        fault(1, "@a.r() ::= \"<@super.~if()>\"");
        fault(1, "@a.r() ::= \"<@super.r~>\"");
    }

    private static void threes() {
        fault(3, "a() ::= \"\" ~a ::= b");
        fault(3, "d ::= [default:true] ~d() ::= \"\"");
        fault(3, "a() ::= \"\" ~a");
        fault(3, "a() ::= \"<@r()>\" @a.r() ::= \"\" @a.~r() ::= \"\"");
        fault(3, "d ::= [\"a\\n\":true, ~\"a\\n\":false]");
        fault(3, "a(b,~b) ::= \"\"");
        fault(3, "a(b=true,~c) ::= \"\"");
        fault(3, "a(b=true,~c /*");
        fault(3, "a(b=true,~b=false) ::= \"\"");
    }

    private static void parts() {
        StringBuilder s = new StringBuilder();
        for (int i = 0; i < 40; i++) {
            s.append("a").append(i).append("() ::= \"\" ");
        }
        fine(s.toString());
        fault(4, s + "~a40() ::= \"\"");
        fault(4, s + "~@a1.r() ::= \"\"");
        fault(3, s + "~a39() ::= \"\"");
        fault(1, s + "~import");
        fine("a(a,b,c,d,e,f,g,h,i,j,k,l) ::= \"\"");
        fault(4, "a(a,b,c,d,e,f,g,h,i,j,k,l,~m) ::= \"\"");
        fault(3, "a(a,b,c,d,e,f,g,h,i,j,k,l=true,~m) ::= \"\"");
        String p = "(".repeat(20);
        fine(in("<" + p + "a" + ")".repeat(20) + ">"));
        fault(4, in("<" + p + "(~a" + ")".repeat(21) + ">"));
        fault(1, in("<" + p + "(~)" + ")".repeat(21) + ">"));
        fault(1, in("<" + p + "(~if" + ")".repeat(21) + ">"));
        fault(2, in("<" + p + "(~abcdefghijklmnopq" + ")".repeat(21) + ">"));
        fine(in("<if(a)>".repeat(20) + "<endif>".repeat(20)));
        fault(4, in("<if(a)>".repeat(20) + "<~if(" + "<endif>".repeat(20)));
        fine(in("<{".repeat(20) + "}>".repeat(20)));
        fault(4, in("<{".repeat(20) + "<~{}>" + "}>".repeat(20)));
        fine(in("<if(" + "!".repeat(20) + "a)><endif>"));
        fault(4, in("<if(" + "!".repeat(20) + "~!a)><endif>"));
        fault(4, in("<if(" + "!".repeat(20) + "~(a))><endif>"));
        StringBuilder r = new StringBuilder();
        for (int i = 0; i < 20; i++) {
            r.append("<@r").append(i).append(">");
        }
        fine(in(r + "<@x()>" + "<@end>".repeat(20)));
        fault(4, in(r + "<~@x>" + "<@end>".repeat(21)));
        fault(1, in(r + "<@x ~y>" + "<@end>".repeat(21)));
        fault(3, in(r + "<@~r3>" + "<@end>".repeat(21)));
        fine("a(b={" + "<{".repeat(19) + "}>".repeat(19) + "}) ::= \"\"");
        fault(4, "a(b={" + "<{".repeat(19) + "<~{}>" + "}>".repeat(19) + "}) ::= \"\"");
    }

    private static void imports() {
        h = new House();
        h.file(1, "import 2 b() ::= \"\"");
        h.file(2, "import 0 c() ::= \"\"");
        h.file(0, "import 1 a() ::= \"\"");
        House.due("a ring", h.load(0), "5@2:7");
        h.file(2, "c() ::= \"\"");
        h.file(3, "import 2 d() ::= \"~\"");
        h.file(0, "import 1 import 3 a() ::= \"\"");
        House.due("two ways to one file", h.load(0), "4");
        h.file(1, "import 2 b( ::= \"\"");
        h.file(3, "import 2 d( ::= \"\"");
        House.due("the first file that was read", h.load(0), "1@1:12");
        h.file(0, "import 1 import 3 a( ::= \"\"");
        House.due("the file itself ahead of all", h.load(0), "1@0:21");
        h.file(0, "import 1 a() ::= \"<zz()>\"");
        House.due("read ahead of checked", h.load(0), "1@1:12");
        h.file(1, "import 2 b() ::= \"<yy()>\"");
        House.due("checked in that order", h.load(0), "6@0:19");
    }

    private static void checks() {
        h = new House();
        fault(6, in("<~t()>"));
        fault(6, in("<a:~t()>"));
        fault(6, "a ::= ~b");
        fault(6, "d ::= [default:true] a ::= ~d");
        fault(10, "~a ::= b b ::= a");
        fault(10, "~a ::= a");
        fine("x ::= y y ::= z z() ::= \"<x()><y()>\"");
        String t = "t(p,q,r=\"\") ::= \"\" ";
        fine(t + in("<t(a,b)><t(a,b,a)><t(q=a,p=b)><t(...)><t(r=a,...)><a:t(b)><a:t(q=b)><a:t(...)>"));
        fault(7, t + in("<~t(a)>"));
        fault(7, t + in("<~t()>"));
        fault(7, t + in("<~t(a,b,a,b)>"));
        fault(7, t + in("<~t(p=a)>"));
        fault(7, t + in("<a:~t()>"));
        fault(7, t + in("<a:~t(a,b,a)>"));
        fault(7, "t() ::= \"\" " + in("<a:~t()>"));
        fault(7, in("<a:~{x,y|}>"));
        fault(7, in("<a,b:~{x|}>"));
        fault(7, in("<a,b:~{x,y,z|}>"));
        fine(in("<a:{}><a:{x|}><{x,y|}><a,b:{x,y|}>"));
        fault(8, t + in("<t(p=a,q=a,~z=b)>"));
        fault(7, t + in("<~t(p=a,z=b)>"));
        fault(8, t + in("<t(~z=b,...)>"));
        fault(9, t + "@t.~r() ::= \"\"");
        fault(9, "@u.~r() ::= \"\"");
        fault(9, "t() ::= \"<@r()>\" u ::= t @u.~r() ::= \"\"");
        fine("t() ::= \"<{<@r()>}>\" @t.r() ::= \"\"");
        fault(9, "t() ::= \"<@r()>\" @t.r() ::= \"<@super.~r()>\"");
        fault(9, "t() ::= \"<super.~t()>\"");
        fault(6, in("<~t(u())>"));
    }

    private static void has() {
        h = new House();
        h.file(1, "t() ::= \"1<@r>a<@end>\" d ::= [default:\"one\"]");
        h.file(2, "t() ::= \"2\" u() ::= \"u<t()>\" d ::= [default:\"two\"]");
        h.file(0, "import 1 import 2 main() ::= \"<t()><u()><d.x>\"");
        House.due("by names", h.load(0), "3");
        House.due("the first file that has it", h.text("main"), "1au1aone");
        h.file(0, "import 2 import 1 main() ::= \"<t()><u()><d.x>\"");
        h.load(0);
        House.due("in order", h.text("main"), "2u2two");
        h.file(0, "import 1 import 2 t() ::= \"0<super.t()>\" @t.r() ::= \"b\" main() ::= \"<t()><u()>\"");
        House.due("a region of a t without it", h.load(0), "9@0:44");
        h.file(0, "import 1 import 2 @t.r() ::= \"b<@super.r()>\" main() ::= \"<t()><u()>\"");
        h.load(0);
        House.due("a region filled", h.text("main"), "1bau1ba");
        h.file(0, "import 1 import 2 t() ::= \"0<super.t()>\" main() ::= \"<t()><u()>\"");
        h.load(0);
        House.due("super", h.text("main"), "01au01a");
        h.file(0, "import 1 t() ::= \"<super.t()><@r()>.\" main() ::= \"<t()>\"");
        h.load(0);
        House.due("what stands in the t of file k is the region of each t", h.text("main"), "1.");
    }

    private static void answers() {
        h = new House();
        h.file(0, "a() ::= \"\" b ::= a d ::= [default:true]");
        House.due("load", h.load(0), "2");
        House.due("look(0)", h.x.look(0), 1);
        House.due("load(8)", h.load(8), "0@-1:-1");
        House.due("load(-1)", h.load(-1), "0@-1:-1");
        h.file(1, "a( ::= \"\"");
        House.due("a fault", h.load(1), "1@1:3");
        House.due("fault(3)", h.x.fault(3), -1);
        House.due("fault(-1)", h.x.fault(-1), -1);
        House.due("look(0)", h.x.look(0), 1);
        House.due("the generation stays", h.begin("b"), "");
        House.due("load again", h.load(0), "2");
        House.due("no fault", h.x.fault(0) + " " + h.x.fault(1), "0 -1");
    }
}
