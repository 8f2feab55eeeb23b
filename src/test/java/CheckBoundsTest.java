/** Imports, which FAULT is the first one, and what is CHECKED: FAULTS 3, 5 and 6 to 10 at their
 * bounds, and what a file HAS (promises 5 and 6). */
public final class CheckBoundsTest {
    public static void main(String[] args) {
        chains();
        rings();
        emptyFiles();
        readOnce();
        manyImports();
        firstFault();
        manyNames();
        twice();
        names();
        counts();
        applied();
        named();
        regionsFilled();
        supers();
        aliases();
        aliasesAcross();
        hasTemplates();
        hasDictionaries();
        hasRegions();
        generationStays();
        House.over();
    }

    private static void fault(int number, String marked) {
        House.fault(number, marked);
    }

    private static void fine(String source) {
        House.fine(source);
    }

    /** The files 0, 1 .. of a new object. */
    private static House house(String... files) {
        House h = new House();
        for (int k = 0; k < files.length; k++) {
            h.file(k, files[k]);
        }
        return h;
    }

    private static void load(String due, String... files) {
        House h = house(files);
        House.due(String.join(" ## ", files), h.load(0), due);
    }

    /** The FAULT of load(0), its place marked by the ~ in one of the files. */
    private static void bad(int number, String... marked) {
        String[] files = marked.clone();
        String due = "";
        for (int k = 0; k < files.length; k++) {
            int place = files[k].indexOf('~');
            if (place >= 0) {
                files[k] = files[k].replace("~", "");
                due = number + "@" + k + ":" + place;
            }
        }
        load(due, files);
    }

    private static void main(String text, String... files) {
        House h = house(files);
        String loaded = h.load(0);
        House.due(String.join(" ## ", files), loaded.indexOf('@') < 0 ? h.text("main") : loaded, text);
    }

    // ---- Imports

    private static void chains() {
        String[] all = new String[8];
        for (int k = 0; k < 7; k++) {
            all[k] = "import " + (k + 1) + " t" + k + "() ::= \"" + k + "<t" + (k + 1) + "()>\"";
        }
        all[7] = "t7() ::= \"7<('t0')>\"";
        House h = house(all);
        House.due("eight files, each of which imports the next one", h.load(0), "8");
        House.due("file 0 has all of it", h.text("t0") + " " + h.text("t7"), "01234567t0 7t0");
        House.due("from file 4 on", h.load(4), "4");
        h.file(7, "import 0 t7() ::= \"7\"");
        House.due("a ring of all eight", h.load(0), "5@7:7");
        House.due("from the last one on", h.load(7), "5@6:7");
        h.file(7, "t7() ::= \"<t0()>\"");
        House.due("what file 4 has not", h.load(4), "6@7:11");
    }

    private static void rings() {
        bad(5, "import ~0");
        bad(5, "import 1", "\nimport ~0");
        bad(5, "import 1", "import ~1");
        bad(5, "import 1", "import 2", "import 3import ~1", "//");
        bad(5, "import 2 import 1", "import 2", "import ~0");
        load("1", "import 1 import 2", "import 3 a() ::= \"\"", "import 3import 1", " ");
        load("0", "import 1 import 1 import 1", "import 2", "//");
        load("0", "import 1 import 2 import 3", "import 3 import 2", "import 3", "//");
        bad(5, "import\n~0 (");
        bad(1, "import ~x import 0");
        bad(5, "import ~0 import x");
    }

    private static void emptyFiles() {
        bad(5, "import ~1");
        bad(5, "import 1 import ~2", " ");
        bad(5, "import 1 import 2", "import ~3", " ");
        bad(5, "import 1 import ~2", "import 2", "");
        load("0", "import 1", "\n");
        House h = house("import 1", "//");
        House.due("of a byte", h.load(0), "0");
        h.x.file(1);
        House.due("made empty again", h.load(0), "5@0:7");
        House.due("the empty one itself", h.load(1), "0");
    }

    private static void readOnce() {
        String one = "import 3 import 2 u() ::= \"u\"";
        String two = "import 3 v() ::= \"v\"";
        String three = "w() ::= \"w\"";
        House h = house("import 1 import 2 import 3 main() ::= \"<u()><v()><w()>\"", one, two, three);
        House.due("four of them", h.load(0), "4");
        House.due("each once", h.text("main"), "uvw");
        h.file(3, "w() ::= \"\" )");
        House.due("a FAULT in the one that all import", h.load(0), "1@3:11");
        h.file(2, "import 3 (");
        House.due("ahead of what is read later", h.load(0), "1@3:11");
        h.file(1, "import 2 import 3");
        House.due("which is read in this order", h.load(0), "1@2:9");
    }

    /** Eight files, each of which imports all behind it, and has 40 DEFINITIONS; one imports often. */
    private static void manyImports() {
        String[] all = new String[8];
        for (int k = 0; k < 8; k++) {
            StringBuilder s = new StringBuilder();
            for (int i = k + 1; i < 8; i++) {
                s.append("import ").append(i).append(' ');
            }
            for (int i = 0; i < 40; i++) {
                s.append((char) ('a' + k)).append(i).append("()::=\"").append(i % 13 == 0 ? "" + k : "").append("\"");
            }
            all[k] = s.toString();
        }
        House h = house(all);
        House.due("320 TEMPLATEs", h.load(0), "320");
        House.due("of each file", h.text("a0") + h.text("a39") + h.text("g26") + h.text("h0") + h.text("h39"), "00677");
        String[] few = {"import 1 import 7", "import 2", "import 3", "import 4", "import 5", "import 6", "import 7", ""};
        few[7] = "h() ::= \"<~zz()>\"";
        bad(6, few);
        few[7] = "@a.~r() ::= \"\"";
        bad(9, few);
        few[7] = "h() ::= \"<super.~zz()>\"";
        bad(9, few);
        few[7] = "h(x) ::= \"<x:~{y,z|}>\"";
        bad(7, few);
        few[7] = "h() ::= \"<~)>\"";
        bad(1, few);
        load("2", "import 1 ".repeat(100) + "import 2", "import 2 ".repeat(20) + "import 3", "t() ::= \"\"", "u() ::= \"\"");
        main("ab", "import 1 import 1 import 2 main() ::= \"<t()><u()>\"", "import 3 ".repeat(9) + "import 4 t() ::= \"a\"", "u() ::= \"x\"", "//",
            "u() ::= \"b\"");
    }

    /** "the first one of a file, as it is met from left to right"; then the CHECKS, file by file. */
    private static void firstFault() {
        bad(1, "a() ::= \"\"~) b() b()", ")");
        bad(2, "~abcdefghijklmnopq ) x");
        bad(1, "import 1 a() ::= \"<zz()>\"", "~)");
        bad(1, "import 1 ~)", ")");
        bad(6, "import 1 a() ::= \"<~zz()>\"", "b() ::= \"<yy()>\"");
        bad(6, "import 1 a() ::= \"<b()>\"", "b() ::= \"<~yy()>\"");
        bad(6, "import 1 import 2", "import 2", "b() ::= \"<~yy()>\" c ::= zz");
        bad(6, "import 1 import 2", "b ::= ~zz", "c ::= zz");
        bad(6, "import 2 import 1", "b ::= zz", "c ::= ~zz");
        String t = "t(x) ::= \"\" ";
        fault(7, t + "a() ::= \"<~t()><zz()>\"");
        fault(6, t + "a() ::= \"<~zz(t())>\"");
        fault(6, t + "a() ::= \"<t(~zz(y=x))>\"");
        fault(8, t + "a() ::= \"<t(~y=x,...)><zz()>\"");
        fault(8, t + "a() ::= \"<t(~y=t(),...)>\"");
        fault(7, t + "a() ::= \"<~t(y=zz())>\"");
        fault(9, t + "@t.~r() ::= \"<zz()>\" a ::= a");
        fault(10, t + "~a ::= a @t.r() ::= \"\"");
        fault(7, t + "a(x={<~t()>}) ::= \"<x:{y,z|}>\"");
    }

    /** NAMEs that a table of them could take for one another. */
    private static void manyNames() {
        String[] alike = {"AaAaAa", "AaAaBB", "AaBBAa", "AaBBBB", "BBAaAa", "BBAaBB", "BBBBAa", "BBBBBB", "AaAa", "BBBB", "Aa", "BB", "C_"};
        StringBuilder s = new StringBuilder();
        StringBuilder calls = new StringBuilder();
        StringBuilder due = new StringBuilder();
        for (int i = 0; i < alike.length; i++) {
            s.append(alike[i]).append("() ::= \"").append((char) ('a' + i)).append("\" ");
            calls.append('<').append(alike[i]).append("()>");
            due.append((char) ('a' + i));
        }
        main(due.toString(), s + "main() ::= \"" + calls + "\"");
        main("-|+", "main(Aa=\"-\",BB=\"+\") ::= \"<Aa>|<BB>\"");
        main("+", "d ::= [\"Aa\":\"-\",\"BB\":\"+\"] main() ::= \"<d.BB>\"");
        fault(6, s + "main() ::= \"<AaAaAa()><~AaBBCc()>\"");
        s.setLength(0);
        due.setLength(0);
        for (int i = 0; i < 250; i++) {
            s.append("{n").append(i).append("|<n").append(i).append(">},");
            due.append(i < 100 ? "v" : "");
        }
        main(due.toString(), "main() ::= \"<[" + "'v',".repeat(100) + "]:" + s.substring(0, s.length() - 1) + ">\"");
    }

    private static void twice() {
        String a = "a() ::= \"\" d ::= [default:key] b ::= a ";
        for (String name : new String[] {"a", "b", "d"}) {
            fault(3, a + "~" + name + "() ::= \"\"");
            fault(3, a + "~" + name + " ::= a");
            fault(3, a + "~" + name + " ::= [default:key]");
            fault(3, a + "~" + name);
            fault(3, a + "~" + name + " /*");
        }
        fine(a + "A() ::= \"\"");
        fault(9, a + "@a.~r() ::= \"\"");
        fault(3, "a() ::= \"<@r()>\" @a.r() ::= \"\" @a.~r() ::= \"\"");
        fault(3, "a() ::= \"<@r()>\" @a.r() ::= \"\" @ a . ~r /*");
        fine("a() ::= \"<@r()><@s()>\" b() ::= \"<@r()>\" @a.r() ::= \"\" @a.s() ::= \"\" @b.r() ::= \"\"");
        load("1", "import 1 a() ::= \"\"", "a() ::= \"\"");
        load("1", "import 1 a() ::= \"<@r()>\" @a.r() ::= \"\"", "a() ::= \"<@r()>\" @a.r() ::= \"\"");
    }

    // ---- FAULTS 6 to 8

    private static void names() {
        fault(6, "a() ::= \"<~b()>\"");
        fault(6, "a() ::= \"<x:~b()>\"");
        fault(6, "a() ::= \"<x:{},~b()>\"");
        fault(6, "a() ::= \"<[x:~b(c())]>\"");
        fault(6, "a(x={<~b()>}) ::= \"\"");
        fault(6, "d ::= [default:{<~b()>}]");
        fault(6, "a() ::= \"<x; null=~b()>\"");
        fault(6, "a() ::= \"<if(!~b())><endif>\"");
        fault(6, "a() ::= \"<@r><~b()><@end>\"");
        fault(6, "a() ::= \"<~d()>\" d ::= [default:key]");
        fault(6, "a ::= ~b");
        fault(6, "a ::= ~d d ::= [default:key]");
        fine("a() ::= \"<b()><b><c>\" b ::= a");
        fine("a() ::= \"<('zz')()>\"");
        load("2", "import 1 a() ::= \"<b()>\"", "b() ::= \"<a()>\"");
        load("6@2:10", "import 2 a() ::= \"<b()>\"", "c() ::= \"\"", "b() ::= \"<c()>\"");
    }

    private static final String T = "t(p,q,r=\"\") ::= \"\" none() ::= \"\" only(r=\"\") ::= \"\" ";

    private static String in(String tag) {
        return T + "main(a) ::= <%" + tag + "%>";
    }

    /** "more ARGS than PARAMs, or one without DEFAULT that none is for, if there is no ..." */
    private static void counts() {
        fine(in("<t(a,a)><t(a,a,a)><none()><none(...)><only()><only(a)><only(...)>"));
        fine(in("<t(...)><t(p=a,q=a)><t(q=a,p=a,r=a)><t(q=a,...)><only(r=a)><t(p=a,q=a,r=a,...)>"));
        fault(7, in("<~t(a)>"));
        fault(7, in("<~t()>"));
        fault(7, in("<~t(a,a,a,a)>"));
        fault(7, in("<~none(a)>"));
        fault(7, in("<~only(a,a)>"));
        fault(7, in("<~t(p=a)>"));
        fault(7, in("<~t(q=a,r=a)>"));
        fault(7, in("< ~t ( p=a ) >"));
        fault(7, in("<[none(),~none(a)]>"));
        fault(7, "al ::= t " + in("<~al(a)>"));
        fine("al ::= t " + in("<al(a,a)>"));
        String twelve = "a,b,c,d,e,f,g,h,i,j,k,l";
        String args = "x,x,x,x,x,x,x,x,x,x,x,x";
        fine("u(" + twelve + ") ::= \"<u(" + args + ")>\"");
        fault(7, "u(" + twelve + ") ::= \"<~u(" + args + ",x)>\"");
        fault(7, "u(" + twelve + ") ::= \"<~u(" + args.substring(2) + ")>\"");
        fine("u(" + twelve + "=\"\") ::= \"<u(" + args.substring(2) + ")>\"");
    }

    /** "of a SUB ..; of a template that is APPLIED: no PARAM, or more ARGS than PARAMs behind the first one" */
    private static void applied() {
        fine(in("<a:{}><a:{x|}><a:{}:{x|},{}><a,a:{x,y|}><a,a,a:{x,y,z|}><[a:{x|}]>"));
        fault(7, in("<a:~{x,y|}>"));
        fault(7, in("<a:{},~{x,y|}>"));
        fault(7, in("<a:{}:~{x,y|}>"));
        fault(7, in("<[a: ~{x,y|}]>"));
        fault(7, in("<a,a:~{}>"));
        fault(7, in("<a,a:~{x|}>"));
        fault(7, in("<a,a:~{x,y,z|}>"));
        fault(7, in("<a,a,a:~{x,y|}>"));
        fine(in("<a:t(a)><a:t(a,a)><a:only()><a:t(q=a)><a:t(q=a,p=a)><a:t(q=a,r=a)><a:t(...)><a:t(r=a,...)>"));
        fault(7, in("<a:~t()>"));
        fault(7, in("<a:~t(a,a,a)>"));
        fault(7, in("<a:~none()>"));
        fault(7, in("<a:~none(...)>"));
        fault(7, in("<a:~only(a)>"));
        fault(7, in("<a:~t(r=a)>"));
        fault(7, in("<a:~t(p=a)>"));
        fault(7, in("<a:{},~t()>"));
        fine(in("<{x,y|}><(a:{x|})><a:('none')()><a:('t')(a,a,a,a)>"));
        fault(7, in("<a:{<a:~{x,y|}>}:{x,y|}>"));
        fault(7, in("<a:~{x,y|<zz()>}>"));
    }

    private static void named() {
        fault(8, in("<t(p=a,q=a,~z=a)>"));
        fault(8, in("<t(~z=a,p=a,q=a)>"));
        fault(8, in("<t(~z=a,...)>"));
        fault(8, in("<t(~z=a,y=a,...)>"));
        fault(8, in("<a:t(q=a,~z=a)>"));
        fault(8, in("<t(p=a, ~P =a,q=a)>"));
        fault(8, in("<only(~p=a)>"));
        fault(7, in("<~t(z=a)>"));
        fault(8, "al ::= t " + in("<al(p=a,q=a,~z=a)>"));
        fine(in("<('t')(z=a)><a:('t')(z=a)>"));
        bad(8, "import 1 u() ::= \"<super.u(~q=a,p=a)>\"", "u(p=\"\") ::= \"\"");
        fine(in("<t(p=t(p=a,q=a),q=a)>"));
        fault(8, in("<t(p=t(p=a,q=a,~z=a),q=a)>"));
    }

    // ---- FAULT 9

    private static void regionsFilled() {
        fine("a() ::= \"<@r()>\" @a.r() ::= \"\"");
        fine("@a.r() ::= \"\" a() ::= \"<if(true)><@r>x<@end><endif>\"");
        fine("a() ::= \"<x:{<{<@r()>}>}>\" @a.r() ::= \"\"");
        fine("a() ::= \"<@s><@r()><@end>\" @a.r() ::= \"\" @a.s() ::= \"\"");
        fault(9, "@a.~r() ::= \"\"");
        fault(9, "a() ::= \"\" @a.~r() ::= \"\"");
        fault(9, "a() ::= \"<@s()>\" @a.~r() ::= \"\"");
        fault(9, "a() ::= \"\" b() ::= \"<@r()>\" @a.~r() ::= \"\"");
        fault(9, "a() ::= \"<@r()>\" b ::= a @b.~r() ::= \"\"");
        fault(9, "a ::= [default:key] @a.~r() ::= \"\"");
        fault(9, "a() ::= \"<@rr()>\" @ a . ~r () ::= \"\"");
        load("1", "import 1 @a.r() ::= \"\"", "a() ::= \"<@r()>\"");
        load("1", "import 1 @a.r() ::= \"\"", "import 2", "a() ::= \"<@r()>\"");
        bad(9, "import 1 import 2 @a.~r() ::= \"\"", "//", "c() ::= \"<@r()>\"");
        bad(9, "import 1 import 2 @a.~r() ::= \"\"", "a() ::= \"\"", "a() ::= \"<@r()>\"");
        load("1", "import 2 import 1 @a.r() ::= \"\"", "a() ::= \"\"", "a() ::= \"<@r()>\"");
        bad(9, "import 1 a() ::= \"\" @a.~r() ::= \"\"", "a() ::= \"<@r()>\"");
        bad(9, "import 1 @a.~r() ::= \"\"", "import 2 a ::= b", "b() ::= \"<@r()>\" a() ::= \"<@r()>\"");
        bad(9, "import 1 a() ::= \"<@r()>\"", "@a.~r() ::= \"\"");
    }

    private static void supers() {
        load("1", "import 1 a() ::= \"<super.a()>\"", "a() ::= \"\"");
        load("1", "import 1 a() ::= \"<x:super.a()>\"", "import 2", "a(x) ::= \"\"");
        load("2", "import 1 b() ::= \"<super.a()>\"", "a() ::= \"\"");
        load("3", "import 1 c() ::= \"<super.b()>\"", "b ::= a a() ::= \"\"");
        bad(9, "a() ::= \"<super.~a()>\"");
        bad(9, "import 1 a() ::= \"<super.~a()>\"", "b() ::= \"\"");
        bad(9, "import 1 a() ::= \"<x:super.~b()>\"", "a(x) ::= \"\"");
        bad(9, "import 1 import 2 a() ::= \"\"", "a() ::= \"<super . ~a()>\"", "a() ::= \"\"");
        bad(9, "import 1 a() ::= \"<super.~a()>\"", "a ::= [default:key]");
        bad(7, "import 1 a() ::= \"<super.~a(x)>\"", "a() ::= \"\"");
        bad(7, "import 1 a() ::= \"<super.~a()>\"", "a(x) ::= \"\"");
        bad(7, "import 1 a() ::= \"<super.~b(x)>\"", "b ::= a a(x) ::= \"\"");
        load("2", "import 1 a(x) ::= \"<super.b(x)>\"", "b ::= a a() ::= \"\"");
        fault(9, "a() ::= \"<@r()>\" @a.r() ::= \"<@super.~r()>\"");
        load("1", "import 1 @a.r() ::= \"<@super.r()>\"", "a() ::= \"<@r()>\"");
        load("1", "import 1 @a.r() ::= \"<@super.r()>\"", "import 2", "a() ::= \"<@r()>\"");
        fault(9, "@a.r() ::= \"<@super.~r()>\" a() ::= \"<@r()>\"");
        load("1", "import 1 a() ::= \"<@r()>\" @a.r() ::= \"<@super.r()>\"", "a() ::= \"<@r()>\"");
        bad(9, "import 1 a() ::= \"<@r()>\" @a.r() ::= \"<@super.~r()>\"", "a() ::= \"\"");
        bad(9, "import 1 a() ::= \"<@r()>\" @a.r() ::= \"<{<@super.~r()>}>\"", "b() ::= \"<@r()>\"");
    }

    // ---- FAULT 10

    private static void aliases() {
        fault(10, "~a ::= a");
        fault(10, "~a ::= b b ::= a");
        fault(10, "b() ::= \"\" ~a ::= c c ::= d d ::= a");
        fault(6, "a ::= b b ::= ~c");
        fault(10, "a ::= b ~b ::= b");
        fault(10, "a ::= b ~b ::= c c ::= b");
        StringBuilder s = new StringBuilder();
        for (int i = 0; i < 39; i++) {
            s.append("a").append(i).append(" ::= a").append(i + 1).append(' ');
        }
        fine(s + "a39() ::= \"<a0()><a17()>\"");
        fault(10, "~" + s + "a39 ::= a0");
        fault(10, s.toString().replace("a38 ::= a39 ", "~a38 ::= a39 ") + "a39 ::= a38");
        fault(6, s + "a39 ::= ~a40");
        main("33", "import 1 main() ::= \"<a0()><('a38')()>\"", s + "a39() ::= \"3\"");
    }

    private static void aliasesAcross() {
        load("10@0:9", "import 1 a ::= b", "b ::= a");
        load("2", "import 1 a() ::= \"\"", "a ::= b b ::= a");
        load("10@1:0", "import 1 c ::= a", "a ::= b b ::= a");
        load("2", "import 1 a ::= b", "a() ::= \"\" b() ::= \"\"");
        load("10@0:9", "import 1 a ::= b", "a() ::= \"\" b ::= a");
        main("k", "import 1 main() ::= \"<a()>\" b() ::= \"k\"", "a ::= b b() ::= \"1\"");
        main("1", "import 1 main() ::= \"<a()>\"", "a ::= b b() ::= \"1\"");
        main("k1", "import 1 main() ::= \"<super.a()><super.b()>\" b() ::= \"k\"", "a ::= b b() ::= \"1\"");
    }

    // ---- What a file HAS

    private static void hasTemplates() {
        String one = "import 3 t() ::= \"1\"";
        String two = "t() ::= \"2\" u() ::= \"2<t()>\"";
        String three = "u() ::= \"3<t()>\" v() ::= \"v<u()>\"";
        main("1|31|v31", "import 1 import 2 main() ::= \"<t()>|<u()>|<v()>\"", one, two, three);
        main("2|22|v22", "import 2 import 1 main() ::= \"<t()>|<u()>|<v()>\"", one, two, three);
        main("0|30|v30|01", "import 1 import 2 t() ::= \"0\" x() ::= \"<t()><super.t()>\" "
            + "main() ::= \"<t()>|<u()>|<v()>|<x()>\"", one, two, three);
        main("12", "import 1 import 2 u() ::= \"<t()><super.t()>\" t() ::= \"1\" main() ::= \"<u()>\"", "//", two);
        main("abc", "import 1 t() ::= \"a<super.t()>\" main() ::= \"<t()>\"", "import 2 t() ::= \"b<super.t()>\"", "t() ::= \"c\"");
        House h = house("import 1 import 2", one, two, three);
        House.due("names", h.load(0), "3");
        House.due("of file 1", h.load(1), "3");
        House.due("of file 2", h.load(2), "2");
    }

    private static void hasDictionaries() {
        String one = "d ::= [\"k\":\"1\"] t() ::= \"<d.k><e.k>\"";
        String two = "d ::= [\"k\":\"2\"] e ::= [\"k\":\"2\"]";
        main("112", "import 1 import 2 main() ::= \"<d.k><t()>\"", one, two);
        main("222", "import 2 import 1 main() ::= \"<d.k><t()>\"", one, two);
        main("002", "import 1 import 2 d ::= [\"k\":\"0\"] main() ::= \"<d.k><t()>\"", one, two);
        main("1", "import 1 d() ::= \"\" main() ::= \"<d.k>\"", "d ::= [\"k\":\"1\"]");
        main("1", "import 1 d ::= [\"k\":\"0\"] main() ::= \"<d()>\"", "d() ::= \"1\"");
    }

    private static void hasRegions() {
        String t = "t() ::= \"<@r>a<@end><@s()>.\" ";
        String call = "import 1 main() ::= \"<t()>\" ";
        main("a.", call, t);
        main("xy.", call + "@t.r() ::= \"x\" @t.s() ::= \"y\"", t);
        main("xa.", call + "@t.r() ::= \"x<@super.r()>\"", t);
        main("y.", call + "@t.s() ::= \"<@super.s()>y\" @t.r() ::= \"\"", t);
        main("x.", call + "@t.r() ::= \"x\"", t + "@t.r() ::= \"b\"");
        main("xb.", call + "@t.r() ::= \"x<@super.r()>\"", t + "@t.r() ::= \"b\"");
        main("xb.", "import 1 main() ::= \"<t()>\" @t.r() ::= \"x<@super.r()>\"", "import 2 @t.r() ::= \"b\"", t);
        main("xba.", "import 1 main() ::= \"<t()>\" @t.r() ::= \"x<@super.r()>\"", "import 2 @t.r() ::= \"b<@super.r()>\"", t);
        main("1.", "import 1 import 2 main() ::= \"<t()>\"", "import 3 @t.r() ::= \"1\"", "import 3 @t.r() ::= \"2\"", t);
        main("2.", "import 2 import 1 main() ::= \"<t()>\"", "import 3 @t.r() ::= \"1\"", "import 3 @t.r() ::= \"2\"", t);
        main("k", "import 1 main() ::= \"<t()>\" t() ::= \"<@r>k<@end>\"", t + "@t.r() ::= \"1\"");
        main("f", "import 1 main() ::= \"<t()>\" t() ::= \"<@r>k<@end>\" @t.r() ::= \"f\"", t);
        main("ka.", "import 1 main() ::= \"<t()>\" t() ::= \"k<super.t()>\"", t);
        main("kk.", "import 1 main() ::= \"<t()>\" t() ::= \"<@r>k<@end><super.t()>\"", t);
        main("fka", "import 1 main() ::= \"<t()>\" t() ::= \"<@r>k<@end>\" @t.r() ::= \"fk<@super.r()>\"", t);
        main("", "import 1 main() ::= \"<t()>\"", "t() ::= \"<@r()><@s><@end>\"");
    }

    /** "the GENERATION stays" where load() throws, whatever the FAULT is. */
    private static void generationStays() {
        String[] bad = {"(", "abcdefghijklmnopq", "a() ::= \"\" a", "a() ::= \"" + "<{".repeat(21) + "\"", "import 0",
            "main ::= b", "main(x) ::= \"<main()>\"", "main(x) ::= \"<main(x=x,y=x)>\"", "@main.r() ::= \"\"", "main ::= main"};
        House h = house("main() ::= \"old\"");
        h.load(0);
        for (int i = 0; i < bad.length; i++) {
            h.file(0, bad[i]);
            House.due("FAULT " + (i + 1), h.load(0).substring(0, i < 9 ? 2 : 3), (i + 1) + "@");
            House.due("the GENERATION stays", h.text("main") + h.x.look(0), "old1");
        }
    }
}
