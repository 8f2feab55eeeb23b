/** Promises 19 to 24: what a text is made of, the ERRORS and the LOOKS. */
public final class TextTest {
    private static final String WORDS = "w(x) ::= \"[<x>]\" two(x,y=\"Y\") ::= \"<x>/<y>\" none() ::= \"0\" ";

    private static void text(House h, String tags, String due) {
        House.due(tags, h.main(WORDS + "main(a,b,l,m,n) ::= <<" + tags + "\n>>"), due);
    }

    /** As text(), and the ERRORS, their places marked by ~ in the tags, in their order of telling. */
    private static void errs(House h, String tags, String due, String numbers) {
        StringBuilder clean = new StringBuilder();
        StringBuilder want = new StringBuilder();
        int start = (WORDS + "main(a,b,l,m,n) ::= <<").length();
        int found = 0;
        for (char c : tags.toCharArray()) {
            if (c == '~') {
                want.append(found == 0 ? "" : " ").append(numbers.charAt(found)).append("@0:").append(start + clean.length());
                found++;
            } else {
                clean.append(c);
            }
        }
        text(h, clean.toString(), due);
        House.due("errors of " + tags, h.errors(), want);
    }

    /** a: "A", b: a BEAN, l: 1, NOTHING, 3; m: a MAP k "A", n NOTHING; n: nothing was added. */
    private static House house() {
        House h = new House();
        int word = h.word("A");
        int one = h.x.number(1);
        int three = h.x.number(-3);
        int list = h.list(one, -1, three);
        int map = h.x.map();
        h.entry(map, "k", word);
        h.entry(map, "n", -1);
        int bean = h.bean("B");
        h.property(bean, "p", 3, three);
        h.property(bean, "p", 1, one);
        h.property(bean, "q", 0, -2);
        h.property(bean, "l", 2, list);
        h.attribute("a", word).attribute("l", list).attribute("m", map).attribute("b", bean);
        return h;
    }

    public static void main(String[] args) {
        names();
        members();
        dictionaries();
        functions();
        lists();
        calls();
        callsByName();
        applied();
        sideBySide();
        conditions();
        attributes();
        instances();
        regions();
        calling();
        generations();
        House.over();
    }

    private static void names() {
        House h = house();
        text(h, "<a>,<n>,<true>,<false>,<'s\\n\\t\\\\\\x\\'>", "A,,true,false,s\n\t\\x\\");
        errs(h, "<~zz><a><~y>", "A", "11");
        text(h, "<{<a>}><{i|<i>}>", "A");
        text(h, "<({<a><a>})>", "AA");
        text(h, "<(n)><(l)>", "1-3");
    }

    private static void members() {
        House h = house();
        text(h, "<m.k><m.n><m.zz><m.('k')><m.(m.k)>", "AA");
        text(h, "<m.keys; separator='+'> <m.values; separator='+', null='-'>", "k+n A+-");
        House.due("no errors", h.errors(), "");
        errs(h, "<a~.k><n~.k><l~.k><m~.(n)><true~.x>", "", "44444");
        text(h, "<b.p><b.l>", "11-3");
        House.due("looks: is ahead of field", h.looks(), "5.1 5.3");
        errs(h, "<b~.q><b~.zz><b><b.('p')>", "B1", "54");
        House.due("looks", h.looks(), "5.2 5.-1 5.1");
        errs(h, "<{i|<a>}.i><{i|}~.x><w(a).x><two(a).y>", "AY", "4");
        text(h, "<l:{x|<x>}; separator=','>:<first(l:{x|.}).i><first(l:{x|.}).i0><last(l:{i|.}).i>", "1,-3:10-3");
    }

    private static void dictionaries() {
        House h = house();
        String d = "d ::= [\"k\":\"v\", \"s\":{<a>!}, \"y\":key, \"t\":true] e ::= [\"keys\":\"K\", default:key] f ::= [default:{<x>}] ";
        House.due("by keys", h.all(d + "main(a) ::= \"<d.k><d.y><d.t><d.zz>,<d.keys>,<e.keys><e.values><e.q><e.(a)>,<d.('k')>\""),
            "vytrue,ksyt,KvaluesqA,v||1|2");
        House.due("made in none", h.all(d + "main(a) ::= \"<d.s>\""), "!|1@0:22|2|2");
        House.due("values", h.all(d + "main(a) ::= \"<d; separator='|'>.<d.values:{x|(<x>)}>.<length(d)><first(d)><length(e)>\""),
            "v|!|y|true.(v)(!)(y)(true).4v1|1@0:22 1@0:22|9|2");
        House.due("empty but for a default", h.main(d + "main(a) ::= \"<if(f)>1<else>0<endif><if(d)>1<endif><length(f)><[d,e]; separator='-'>\""),
            "010v-!-y-true-K");
        House.due("an attribute hides it", h.main(d + "main(d) ::= \"[<d>]\""), "[]");
    }

    private static void functions() {
        House h = house();
        text(h, "<first(l)><last(l)>,<rest(l)>,<trunc(l); null='-'>,<strip(l)>,<reverse(l); null='-', separator='.'>", "1-3,-3,1-,1-3,-3.-.1");
        text(h, "<first(n)><last(n)><rest(n)><trunc(n)><strip(n)><reverse(n)><length(n)>", "0");
        text(h, "<first(a)><last(a)><rest(a)><trunc(a)><strip(a)><reverse(a)><length(a)><length(l)><length(m)>", "AAAA132");
        text(h, "<if(strip(n))>1<else>0<endif><if(rest(a))>1<else>0<endif>", "00");
        text(h, "<strlen(a)><strlen(l)><trim(' x y\\n\\t ')>.<trim('  ')>.<strlen({<a>\\}<a>})>", "13x y..3");
        errs(h, "<~strlen(n)><~trim(n)>", "", "66");
        text(h, "<first([])><first(m)><rest(m); null='-'>", "A-");
    }

    private static void lists() {
        House h = house();
        text(h, "<[a,,b,l,m]; null='-', separator=','>", "A,-,B,1,-,-3,A,-");
        text(h, "<[]; null='-'><[,]; null='-'><length([[a,a],[a]])><length([])>", "--30");
        text(h, "<length([l,l,l,l,l,l,l,l,l,l,l,l,l,l,l,l,l,l,l,l,l,l,l,l,l,l,l,l,l,l,l,l,l,l])>", "100");
    }

    private static void calls() {
        House h = house();
        text(h, "<w(a)><two(a)><two(a,b)><two(y=a,x=b)><two(x=n,y=n)>", "[A]A/YA/BB/A/");
        House.due("looks as they are written", h.looks(), "5.-1 5.-1");
        String s = "t(a,z,q=\"Q\") ::= \"<a><z><q>\" d ::= [default:\"D\"] ";
        House.due("...", h.all(s + "main(a) ::= \"<t(...)>,<t(z='Z',...)>,<{z,q|<t(...)>}>\""), "AQ,AZQ,AQ||5|2");
        House.due("... takes a dictionary", h.main(s + "u(d) ::= \"<d.x>\" main(a) ::= \"<u(...)>\""), "D");
        House.due("defaults", h.all("t(a={<b>},b=[],c=true,d=\"<a>\",e=false) ::= \"<a>:<b>:<c>:<d>:<e>\" main() ::= \"<t()>|<t(b='x')>|<t({})>\""),
            "::true:<a>:false|x:x:true:<a>:false|::true:<a>:false||7|2");
        House.due("made in the one at hand", h.main("t() ::= \"<x>\" u(x) ::= \"<t()>\" main(x) ::= \"<t()><u('u')>\""), "u");
        House.due("args from the left", h.all("t(x,y) ::= \"<y><x>\" main() ::= \"<t(y=p,x=q)>\""), "|1@0:37 1@0:41|2|2");
    }

    private static void callsByName() {
        House h = house();
        text(h, "<('w')(a)><({tw<\\\\>\n o})(a)><(a)(b)>", "[A]A/Y");
        House.due("error 2 at the (", h.errors().charAt(0), '2');
        errs(h, "<~('zz')(zz)>", "", "2");
        errs(h, "<~(n)(zz)>", "", "2");
        errs(h, "<~('none')(a)><('none')()>", "00", "3");
        text(h, "<('w')(a,b,a)>", "[A]");
        House.due("too many: one error", h.errors().split(" ").length, 1);
        text(h, "<('w')(q=a,x=b,r=a)>", "[B]");
        House.due("each NAMED that is none", h.errors().split(" ").length, 2);
        text(h, "<('two')()>", "/Y");
        House.due("none that lacks", h.errors(), "");
        House.due("an alias", h.main(WORDS + "v ::= w main(a) ::= \"<('v')(a)>\""), "[A]");
    }

    private static void applied() {
        House h = house();
        text(h, "<l:{x|<i><i0><x> }>", "101 32-3 ");
        text(h, "<l:w(); null='-'>,<n:w(); null='-'>,<a:w()>,<m:w()>,<b:{.}>", "[1]-[-3],-,[A],[A],.");
        text(h, "<l:{x|<x>},w(),('two')('t'); separator=' '>", "1 -3/t");
        text(h, "<['p','q','r','s']:{x|<x>},w(),('two')('t'); separator=' '>", "p [q] r/t s");
        text(h, "<['p','q']:two(a):w()>", "[p/A][q/A]");
        text(h, "<['p','q']:two(x='z')><a:two(x=n)>", "z/Yz/Y/Y");
        text(h, "<a:{i|<i>}><length(n:w())><length([]:w())>", "A00");
        errs(h, "<l:~('zz')(zz)>", "", "2");
        errs(h, "<n:('zz')(zz)><l:~(n)()>", "", "2");
        text(h, "<l:('none')(a)>", "00");
        House.due("not given, and too many, each time", h.errors().split(" ").length, 4);
        text(h, "<l:('w')(q=a)>", "[1][-3]");
        text(h, "<l:('w')(x=a)>", "[A][A]");
        House.due("args worked out each time", h.all(WORDS + "main(l) ::= \"<l:two(zz)>\""),
            "1/-3/|1@0:79 1@0:79|3|2");
        House.due("the name is written once", h.all("w(x) ::= \"\" main(l) ::= \"<l:({<zz>w})()>\""), "|1@0:31|4|2");
        House.due("args see the one at hand", h.main(WORDS + "main(l,i) ::= \"<l:two(i)>\""), "1/-3/");
    }

    private static void sideBySide() {
        House h = house();
        text(h, "<l,['p','q']:{x,y|<i><i0><x><y>;}>", "101p;21q;32-3;");
        text(h, "<n,[]:{x,y|.}; null='-'>,<n,a:{x,y|<x><y>}>,<m,a:{x,y|<x><y>.}>", "-,A,AA..");
        errs(h, "<~zz,l,~yy:{x,y,z|<y>}>", "1-3", "11");
        House.due("instances", h.x.look(6), 4);
    }

    private static void conditions() {
        House h = house();
        String s = "<if(%)>1<else>0<endif>";
        StringBuilder tags = new StringBuilder();
        for (String c : "a n true false !n [] l m [a] b b.zz {} !a&&n n||a a&&n (n||a)&&!(n) !!a n||n a&&a||n&&n ''".split(" ")) {
            tags.append(s.replace("%", c));
        }
        text(h, tags.toString(), "10101011110101011011");
        House.due("no bean is looked at but for its property", h.looks(), "");
        errs(h, "<if(a||zz)><endif><if(n&&zz)><endif><if(n||~zz)><endif>", "", "1");
        text(h, "<if(n)>1<elseif(n)>2<elseif(a)>3<elseif(zz)>4<else>5<endif>.<if(n)>1<endif>", "3.");
        House.due("none behind the true one", h.errors(), "");
        House h2 = new House();
        h2.attribute("a", h2.x.truth(false)).attribute("b", h2.x.map());
        text(h2, s.replace("%", "a") + s.replace("%", "b") + s.replace("%", "!a"), "001");
    }

    private static void attributes() {
        House h = new House();
        int one = h.x.number(1);
        int list = h.list(one, -1);
        int map = h.x.map();
        h.entry(map, "k", one);
        h.attribute("a", one).attribute("b", list).attribute("a", list).attribute("x y", one);
        h.attribute("a", map).attribute("a", -1).attribute("p", -1).attribute("q", one).attribute("i", one);
        House.due("many of one name", h.main("main(a,b) ::= \"<length(a)><a; separator=',', null='-'>|<length(b)>\""), "51,1,-,1,-|2");
        House.due("no PARAM", h.all("main() ::= \"<q><length(b)><i><t()>\" t() ::= \"<q><i0>\""), "1211|1@0:49|2|2");
        House.due("NOTHING is given, too", h.all("main(p=\"P\",q=\"Q\",r=\"R\",s={<r>}) ::= \"<p><q><r><s>\""), "1RR||2|2");
        House.due("by begin()", h.begin("main"), "");
        House.due("root and defaults", h.x.look(6), 2);
    }

    private static void instances() {
        House h = house();
        House.due("a SUB is made where it stands", h.all(WORDS + "t(x,s) ::= \"<s><x>\" main(a) ::= \"<t('T',{<x>})>\""), "T|1@0:101|3|2");
        House.due("a default is made in its template", h.main("t(x,s={<x>}) ::= \"<s>\" main(x) ::= \"<t('T')>\""), "T");
        House.due("a DEFAULT's own attributes", h.all("t(s={x|<x>}) ::= \"<s>\" main(a) ::= \"<t()><t().s.x>\""), "||5|2");
        House.due("30 in one another", h.all("main() ::= \".<main()>\""), ".".repeat(30) + "|7@0:13|31|2");
        House.due("in words, too", h.all("main() ::= \".<(main())>\""), ".".repeat(30) + "|7@0:13|31|2");
    }

    private static void regions() {
        House h = house();
        House.due("in their template", h.all("main(a) ::= \"<@r()>[<@s><a><@u>u<@end><@end>]\""), "[Au]||4|2");
        h.file(1, "main(a) ::= \"<@r>r<a><@end><{<@s()>}>\"");
        House.due("filled", h.all("import 1 @main.r() ::= \"(<@super.r()><{<@super.r()>}>)\" @main.s() ::= \"s<zz>\""), "(rArA)s|1@0:73|7|2");
        House.due("file and place", h.all("import 1 @main.s() ::= \"<zz>\""), "rA|1@0:25|4|2");
        h.file(2, "import 1 @main.r() ::= \"2<@super.r()>\"");
        House.due("in turn", h.main("import 2 @main.r() ::= \"0<@super.r()>\""), "02rA");
        House.due("of the file where it stands", h.main("import 2 @main.s() ::= \"0\""), "2rA0");
    }

    private static void calling() {
        House h = new House();
        h.file(0, "main() ::= \"abcde<zz>f<zz>\" b() ::= \"\"");
        House.due("no generation", h.begin("main"), "ISE");
        h.load(0);
        House.due("no such template", h.begin("mai") + h.begin("") + h.begin("zz"), "NSEENSEENSEE");
        House.due("none was begun", h.x.look(7), 0);
        House.due("begin", h.begin("main"), "");
        House.due("nothing is there", h.x.look(3) + " " + h.x.look(4) + " " + h.x.look(6) + " " + h.bytes(), "0 0 1 ");
        House.due("begin again", h.begin("main"), "ISE");
        House.due("run(0)", h.run(0) + h.run(-1) + h.run(12001), "IAEIAEIAE");
        House.due("run(2)", h.run(2), "0");
        House.due("two bytes", h.bytes() + h.x.look(3), "ab2");
        House.due("byteOf", h.x.byteOf(1) + " " + h.x.byteOf(2) + " " + h.x.byteOf(-1), "98 -1 -1");
        House.due("run(3): no error yet", h.run(3) + h.errors(), "0");
        House.due("run(1): one error", h.run(1) + h.errors(), "01@0:18");
        House.due("all bytes are there, it goes on", h.x.look(7), 1);
        House.due("run(1): over", h.run(1) + h.errors(), "11@0:18 1@0:23");
        House.due("over", h.x.look(7), 2);
        House.due("run", h.run(1) + h.run(0), "ISEIAE");
        House.due("error", h.x.error(0, 0) + " " + h.x.error(0, 3) + " " + h.x.error(0, -1) + " " + h.x.error(2, 0) + " " + h.x.error(-1, 0),
            "1 -1 -1 -1 -1");
        h.begin("main");
        h.run(3);
        House.due("stop", h.x.stop(), true);
        House.due("what is there stays", h.bytes() + h.x.look(7) + h.x.look(3), "abc43");
        House.due("no template: the latest text stays", h.begin("zz") + h.bytes(), "NSEEabc");
        House.due("an empty text", h.text("b") + h.x.look(7) + h.x.look(6), "21");
        h.attribute("b", h.bean("B"));
        h.main("main(b) ::= \"<b><b.x>\"");
        House.due("looked", h.x.looked(0, 0) + " " + h.x.looked(0, 1) + " " + h.x.looked(0, 2) + " " + h.x.looked(1, 0) + " " + h.x.looked(-1, 0),
            "0 -1 -2 -2 -2");
    }

    private static void generations() {
        House h = new House();
        h.file(0, "main() ::= \"one<t()>\" t() ::= \"1\"");
        h.load(0);
        h.begin("main");
        h.run(1);
        h.file(0, "main() ::= \"two<t()>\" t() ::= \"2\"");
        h.load(0);
        h.run(100);
        House.due("a text goes on with its own", h.bytes(), "one1");
        House.due("the next one is of the new one", h.text("main"), "two2");
        House.due("look(0)", h.x.look(0), 2);
    }
}
