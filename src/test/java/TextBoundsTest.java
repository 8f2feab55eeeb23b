/** What values are at their bounds while a text is made (promise 19): none, one, many of them, what
 * is missing, what is one too many, and what is not worked out. */
public final class TextBoundsTest {
    private static final String T = "one(x) ::= \"1<x>\" two(x,y=\"Y\") ::= \"<x>/<y>\" none() ::= \"0\" "
        + "d ::= [\"k\":\"v\",\"e\":\"\",\"y\":key] dd ::= [\"k\":\"v\",default:key] only ::= [default:{x|<x>}] ";

    public static void main(String[] args) {
        names();
        defaults();
        given();
        dots();
        byName();
        byNameOrder();
        mapMembers();
        dictionaryMembers();
        beanMembers();
        instanceMembers();
        otherMembers();
        functions();
        trims();
        applied();
        inTurn();
        appliedByName();
        loopAttributes();
        sideBySide();
        conditions();
        lazyConditions();
        branches();
        regions();
        errorFiles();
        House.over();
    }

    /** none: [], one: ["a"], two: ["a","b"], three: ["a",NOTHING,"c"], nots: [NOTHING], m: MAP, e: an
     * empty MAP, b: BEAN, w: "a", f: false, n: NOTHING. */
    private static House house() {
        House h = new House();
        int a = h.word("a");
        int b = h.word("b");
        int c = h.word("c");
        int map = h.x.map();
        h.entry(map, "k", a);
        h.entry(map, "n", -1);
        h.entry(map, "keys", b);
        int bean = h.bean("B");
        h.property(bean, "p", 0, c);
        h.property(bean, "x", 3, -2);
        h.property(bean, "n", 3, -1);
        h.attribute("none", h.x.list()).attribute("one", h.list(a)).attribute("two", h.list(a, b));
        h.attribute("three", h.list(a, -1, c)).attribute("nots", h.list(-1)).attribute("m", map);
        h.attribute("e", h.x.map()).attribute("b", bean).attribute("w", a).attribute("f", h.x.truth(false));
        h.attribute("number", h.x.number(0));
        return h;
    }

    private static void is(String marked, String text, String errors) {
        house().is(T + "main(n) ::= <%" + marked + "%>", text, errors);
    }

    // ---- Attributes

    private static void names() {
        is("<w><f><number><n><~1zz><true><false>", "afalse0truefalse", "1@1");
        is("<one:{w|<w>}><['x']:{y|<w><y>}>", "aax", "");
        is("<{w|<w>}><{w|<{<w>}>}>", "", "");
        House.text("t(d) ::= \"<d>\" d ::= [\"k\":\"D\"] main() ::= \"<d.k><t('x')><t({})><{d|<d>}>\"", "Dx");
        new House().is("t() ::= \"<~1x>\" main() ::= \"<t()><{x|<t()>}><u('1')>\" u(x) ::= \"<t()><v('2')>\" v(x) ::= \"<t()>\"",
            "12", "1@1");
        House.text("main(s={<x>}, x=\"X\") ::= \"<s><u(s)>\" u(s,x=\"U\") ::= \"<s>\"", "XX");
        new House().is("d ::= [\"k\":{<~1w>}] main(w=\"W\") ::= \"<d.k><w>\"", "W", "1@1");
    }

    private static void defaults() {
        House h = new House();
        int w = h.word("given");
        h.attribute("a", -1).attribute("b", w).attribute("q", w);
        h.is("main(d,a=\"A\",b=\"B\",c=\"C\",e={<c><q>},f=true,g=false,h=[]) ::= \"<a>|<b>|<c>|<d>|<e>|<f>|<g>|<h; null='x'>|<q>\"",
            "|given|C||Cgiven|true|false||given", "").made(2);
        h = new House();
        h.is("main(a={1},b={2}) ::= \"<b>\"", "2", "").made(3);
        h.attribute("a", h.x.list());
        h.is("main(a={1},b={2}) ::= \"<a><b>\"", "2", "").made(2);
        h.x.clear();
        h.is("main() ::= \"<t(x)><t('a')><t('a','b')>\" t(x,y={<x>}) ::= \"<y>\" x ::= [default:\"\"]", "ab", "");
    }

    private static void given() {
        is("<two(n)>,<two(n,n)>,<two(w)>,<two(w,n)>,<two(y=n,x=w)>,<two(x=n)>", "/Y,/,a/Y,a/,a/,/Y", "");
        is("<two(~1z,~2y)><two(y=~3z,x=~4y)>", "//", "1@1 1@2 1@3 1@4");
    }

    private static void dots() {
        String t = "t(w,v,d,zz,x=\"X\") ::= \"<w>|<v>|<d~1.k>|<x>|<zz>\" ";
        house().is(T + t + "main(v=\"V\",x=\"no\") ::= \"<t(...)>\"", "a|V|v|X|", "");
        house().is(T + t + "main(v=\"V\",x=\"no\") ::= \"<t(w='W',x=v,...)>,<{w,v|<t(v='v',...)>}>\"", "W|V|v|V|,|v|v|X|", "");
        house().is(T + t + "main(v=\"V\") ::= \"<('t')(...)>,<('t')()>,<one:t(...)>\"", "a|V|v|X|,|||X|,a|V|v|X|", "4@1");
    }

    // ---- ( ARG ) ( ARGS )

    private static void byName() {
        is("<~1('zz')(~2q)>", "", "2@1");
        is("<~1(n)(q)><~2(~3z)(q)>", "", "2@1 1@3 2@2");
        is("<~1('')(q)><~2('abcdefghijklmnopq')()><~3('on')()><~4('d')()>", "", "2@1 2@2 2@3 2@4");
        is("<('one')()><('one')(w)><~1('one')(w,~2q)><~3('none')(w)><('none')()>", "11a1a00", "1@2 3@1 3@3");
        is("<~1('one')(w,w,w,w)>", "1a", "3@1");
        is("<~1('two')(q=w,y=w,r=w)><('two')(y=w)>", "/a/a", "3@1 3@1");
        is("<~1('none')(x=~2q,y=w)>", "0", "1@2 3@1 3@1");
        is("<('none')(...)><('two')(...)>", "0/Y", "");
        is("<({o<'n'>e})(w)><(['n','one'])()><~1([])()>", "1a0", "2@1");
        is("<~1(true)(w)>", "", "2@1");
        is("<['y',('one')('x'),'z']><two('y',('one')('x'))><two(('one')('x'),'y')><[~1('zz')(),'y']>",
            "y1xzy/1x1x/yy", "2@1");
    }

    /** "all behind the ARGS, ahead of the INSTANCE: first that of a value that is not given ..". */
    private static void byNameOrder() {
        is("<w:~1('none')(~2q,~3z)>", "0", "1@2 1@3 3@1 3@1");
        is("<w:~1('none')(q=~2q,z=~3z)>", "0", "1@2 1@3 3@1 3@1 3@1");
        is("<w:~1('one')(~2q)>", "1a", "1@2 3@1");
        is("<w:~1('one')(x=~2q,z=w)>", "1", "1@2 3@1");
        is("<two:~1('none')()>", "00", "3@1 3@1");
        is("<w:('two')(~1q)>", "a/", "1@1");
    }

    // ---- MEMBER . NAME, MEMBER . ( ARG )

    private static void mapMembers() {
        is("<m.k>|<m.n; null='-'>|<m.zz; null='-'>|<m.keys>|<m.values; separator=',', null='-'>|<m.('')>", "a|-|-|b|a,-,b|", "");
        is("<e.keys; null='-'>|<e.values; null='-'>|<e.k; null='-'>|<length(e.keys)>", "||-|0", "");
        is("<m.('k')><m.(w); null='-'><m~1.(n)><m.(['k'])><m.({k})><m~2.(~3q)>", "a-aa", "4@1 1@3 4@2");
        is("<m.('keys')><m.('values'); null='-'>", "ba-b", "");
        is("<e.xeys; null='-'><e.kexs; null='-'><e.key; null='-'><e.Values; null='-'><e.value; null='-'><m.valuex; null='-'>", "------", "");
        is("<d.xeys; null='-'><d.valuex; null='-'><d.Keys; null='-'><d.keys; null='-'>", "---key", "");
    }

    private static void dictionaryMembers() {
        is("<d.k>|<d.e>|<d.y>|<d.zz; null='-'>|<d.keys>|<d.values>", "v||y|-|key|vy", "");
        is("<dd.k>|<dd.zz>|<dd.keys>|<dd.values>|<dd.('')>|<length(dd)><dd>", "v|zz|keys|values||1v", "");
        is("<[dd.p,dd.q,dd.(w)]; separator='-'><dd.p; format=dd.cap><[dd.p]:{x|<dd.q><x>}>", "p-q-aPqp", "");
        is("<only.a>|<only.keys>|<only>|<length(only)>|<d.('keys')>|<d.(w); null='-'>", "|||0|key|-", "");
        is("<d~1.(n)><dd~2.(n)><d.({k})><dd.([w,w])>", "vaa", "4@1 4@2");
    }

    private static void beanMembers() {
        House h = house();
        h.is(T + "main(n) ::= <%<b.p><b~1.x><b.n; null='-'><b~2.q><b.('p')><b~3.(n)><b>%>", "c-cB", "5@1 4@2 4@3");
        House.due("looks", h.looks(), "4.0 4.1 4.2 4.0 4.-1");
    }

    private static void instanceMembers() {
        is("<one(w).x>|<two(w).y>|<two(w)~1.w>|<{}~2.w>|<{x|}.x; null='-'>|<{x|}~3.i>", "a|Y|||-|", "4@1 4@2 4@3");
        is("<first(two:{}).i><first(two:{}).i0><last(two:{}).i><last(two:{}).i0><last(three:one()).i><first(two:{})~1.x>", "10213", "4@1");
        is("<first([w:one()]).i><first([w:one()]).('i0')>", "10", "");
        is("<two(w).('y')><two(w)~1.('z')><two(w)~2.('')><two(w)~3.(n)><dd.k~4.x>", "Y", "4@1 4@2 4@3 4@4");
        is("<only.a.x; null='-'><only.a~1.i>", "-", "4@1");
    }

    private static void otherMembers() {
        is("<w~1.k><f~2.k><number~3.k><n~4.k><two~5.k><none~6.keys><true~7.k><[]~8.values><'s'~9.k>", "",
            "4@1 4@2 4@3 4@4 4@5 4@6 4@7 4@8 4@9");
        is("<n~1.k~2.k><m.zz~3.k>", "", "4@1 4@2 4@3");
    }

    // ---- FUNCTIONS

    private static void functions() {
        String[] of = {"n", "none", "[]", "e", "w", "one", "two", "three", "nots", "m", "d", "only", "['']", "{}", "f", "[,]"};
        String[] first = {"-", "-", "-", "-", "a", "a", "a", "a", "-", "a", "v", "-", "", "", "false", "-"};
        String[] last = {"-", "-", "-", "-", "a", "a", "b", "c", "-", "b", "y", "-", "", "", "false", "-"};
        String[] rest = {"-", "-", "-", "-", "-", "-", "b", "-.c", "-", "-.b", ".y", "-", "-", "-", "-", "-"};
        String[] trunc = {"-", "-", "-", "-", "-", "-", "a", "a.-", "-", "a.-", "v.", "-", "-", "-", "-", "-"};
        String[] strip = {"", "", "", "", "a", "a", "a.b", "a.c", "", "a.b", "v..y", "", "", "", "false", ""};
        String[] reverse = {"", "", "", "", "a", "a", "b.a", "c.-.a", "-", "b.-.a", "y..v", "", "", "", "false", "-.-"};
        String[] length = {"0", "0", "0", "0", "1", "1", "2", "3", "1", "3", "3", "0", "1", "1", "1", "2"};
        for (int i = 0; i < of.length; i++) {
            String due = first[i] + "|" + last[i] + "|" + rest[i] + "|" + trunc[i] + "|" + strip[i] + "|" + reverse[i] + "|" + length[i];
            String tags = "";
            for (String f : "first last rest trunc strip reverse".split(" ")) {
                tags += "<" + f + "(" + of[i] + "); null='-', separator='.'>|";
            }
            house().is(T + "main(n) ::= \"" + tags + "<length(" + of[i] + ")>\"", due, "");
        }
        is("<if(rest(one))>1<endif><if(trunc(none))>2<endif><if(strip(nots))>3<endif><if(reverse(none))>4<endif>"
            + "<if(length(none))>5<endif><if(first(none))>6<endif><if(rest(two))>7<endif>", "57", "");
    }

    private static void trims() {
        House h = new House();
        h.attribute("a", h.word("\n\t  x \r\t y\n \t\n")).attribute("b", h.word(" \n\t")).attribute("c", h.word("\r \r\0"));
        h.is("main(a,b,c,n) ::= \"[<trim(a)>][<trim(b)>][<trim(c)>][<trim('')>][<trim('x')>][<~1trim(n); null='-'>]\"",
            "[x \r\t y][][\r \r\0][][x][-]", "6@1");
        h.is("main(a,b,c,n) ::= \"<strlen(a)> <strlen(b)> <strlen('')> <~1strlen(n); null='-'> <strlen([])> <strlen([b,b])>\"",
            "14 3 0 - 0 6", "6@1");
        h.is("main(n) ::= \"<~1trim(n:{})>\"", "", "6@1");
        h.is("main(b) ::= \"<(' ')>[<trim(' ')>]<strlen(trim(b))><trim(b); null='-'><if(trim(b))>y<endif><(b)><trim(b)>.\"",
            " []0y \n\t.", "");
    }

    // ---- APPLIED

    private static void applied() {
        is("<n:{x}; null='-'>|<none:{x}; null='-'>|<e:{x}; null='-'>|<only:{x}; null='-'>|<length(none:{})>|<length(n:{})>", "-||||0|0", "");
        is("<one:{x|[<x>]}><two:{x|[<x>]}><w:{x|[<x>]}><f:{x|[<x>]}><m:{x|[<x>]}; null='-'>", "[a][a][b][a][false][a]-[b]", "");
        is("<three:{x|<i>}; null='-'><nots:{x|<i>}; null='-'><length(nots:{})>", "1-3-1", "");
        is("<b:{x|<x>}><d:{x|<x>,}><{s}:{x|<x>}>", "Bv,,y,s", "");
        is("<two:one():one()><two:{x|<x><x>}:{x|<x>.}><n:one():one(); null='-'><two:{n}:{x|<x><i>}>", "11a11baa.bb.-n1n2", "");
        is("<w:two()>,<w:two(w)>,<w:two('q')>,<w:two(y='q')>,<w:two(x='q')>,<w:two(x='q',y=n)>", "a/Y,a/a,a/q,a/q,q/Y,q/", "");
        is("<two:two(~1q)>", "a/b/", "1@1 1@1");
        is("<two:two(one:one())>,<two:two([three:{x|<i>}])>,<two:two(({<two:{<i>}>}))>,<two:two(two:two(two:{<i>}))>",
            "a/1ab/1a,a/13b/13,a/12b/12,a/a/12b/12b/a/12b/12", "");
        is("<two:two([two:one(),w:two(n)]):{x|(<x>)}>", "(a/1a1ba/)(b/1a1ba/)", "");
        is("<n:two(q)><none:two(q)><nots:two(q)>", "", "");
    }

    private static void inTurn() {
        String[] lists = {"none", "one", "two", "['a','b','c']", "['a','b','c','d']", "['a','b','c','d','e']", "w"};
        String[] due = {"", "0a", "0a1b", "0a1b2c", "0a1b2c0d", "0a1b2c0d1e", "0a"};
        for (int i = 0; i < lists.length; i++) {
            is("<" + lists[i] + ":{x|0<x>},{x|1<x>},{x|2<x>}>", due[i], "");
        }
        is("<three:{x|0<x>},{x|1<x>}; null='-'><three:{x|0<x>},one(),two()>", "0a-0c0ac/Y", "");
        is("<['a','b','c']:{x|0<x>},~1('zz')(q),one(); null='-'>", "0a-1c", "2@1");
    }

    private static void appliedByName() {
        is("<two:~1('zz')(q); null='-'>", "--", "2@1");
        is("<w:~1('zz')(q); null='-'>|<length(two:~2('zz')())>|<three:~3(n)(q); null='-'>", "-|2|---", "2@1 2@2 2@3");
        is("<none:~1('zz')(q); null='-'><n:('zz')(q); null='-'><nots:~2('zz')(); null='-'>", "--", "2@1 2@2");
        is("<n:({<q>})()><~1q:({<q>})()><none:({<~2q>one})()><two:({<~3q>one})()>", "1a1b", "1@1 1@2 1@3");
        is("<two:('one')(),~1('zz')(),('two')(w)><w:('one')(),~2('zz')()>", "1a1a", "2@1 2@2");
        is("<two:~1('none')(w)>", "00", "3@1 3@1 3@1 3@1");
        is("<two:('one')():('two')(w)>", "1a/a1b/a", "");
    }

    private static void loopAttributes() {
        is("<two:{<i><i0>}><two:{i|<i><i0>}><two:{i0|<i><i0>}><w:{<i><i0>}>", "1021a0b11a2b10", "");
        is("<two:{<two:{<i>}><i>}>", "121122", "");
        is("<two:{<{<i>}>}><{<~1i>}>", "12", "1@1");
        house().is(T + "t(i) ::= \"<i><i0>\" u(x,y={<i>}) ::= \"<y><i0>\" main() ::= \"<two:t()><two:u()><two:t(i='q')>\"",
            "a0b11021q0q1", "");
        is("<two:two(~1i)><two,two:{x,y|<i><i0><x><y>}>", "a/b/10aa21bb", "1@1 1@1");
        is("<two,two:{i,i0|<i><i0>}>", "aabb", "");
    }

    private static void sideBySide() {
        is("<n,none:{x,y|z}; null='-'><none,e:{x,y|z}; null='-'><nots,n:{x,y|z<x><y>}; null='-'>", "--z", "");
        is("<two,w:{x,y|<x><y>.}><w,['p','q','r']:{x,y|<x><y>.}><n,two:{x,y|<x><y>.}>", "aa.b.ap.q.r.a.b.", "");
        is("<three,nots:{x,y|<x; null='-'><y; null='-'>}><m,d:{x,y|<x><y>.}>", "a---c-av..by.", "");
        is("<~1q,two,~2z:{x,y,u|<y>}>", "ab", "1@1 1@2");
        is("<['a'],['b'],['c'],[],['d','e']:{p,q,r,s,t|<p><q><r><s><t>.}>", "abcd.e.", "");
    }

    // ---- CONDs

    private static void conditions() {
        String[] yes = {"w", "''", "number", "true", "one", "nots", "[,]", "m", "b", "d", "dd", "{}", "none()", "length(none)",
            "!n", "!f", "!none", "(w)", "!(n)", "!!w", "w&&m", "n||w", "strlen('')", "one(n)"};
        String[] no = {"n", "f", "false", "none", "[]", "e", "only", "d.zz", "m.n", "!w", "!''", "(n)", "!(w)", "!!n", "w&&n", "n&&w",
            "n||f", "rest(one)", "strip(nots)", "n&&w||f", "n&&(w||w)", "!w&&w", "!(n||w)"};
        for (String c : yes) {
            is("<if(" + c + ")>y<else>n<endif>", "y", "");
        }
        for (String c : no) {
            is("<if(" + c + ")>y<else>n<endif>", "n", "");
        }
        is("<if(n&&w||w)>y<endif><if(w||n&&n)>y<endif><if(w||w&&n)>y<endif><if((w||w)&&n)>y<endif><if(!n&&w)>y<endif>", "yyyy", "");
        House h = house();
        h.is(T + "main() ::= \"<if(b)>y<endif><if(!b)>n<endif><if(b.p)>p<endif>\"", "yp", "");
        House.due("a BEAN is not LOOKED AT", h.looks(), "4.0");
    }

    private static void lazyConditions() {
        is("<if(w||q)>1<endif><if(n&&q)>2<endif><if(n||~1q)>3<endif><if(w&&~2q)>4<endif>", "1", "1@1 1@2");
        is("<if(n&&q||~1q)>1<endif><if(w||q&&q)>2<endif><if(w&&(w||q)||q)>3<endif><if(!(w||q)||~2z)>4<endif>", "23", "1@1 1@2");
        is("<if(n&&q&&q)>1<endif><if(n||w||q)>2<endif><if(n||n||~1q)>3<endif>", "2", "1@1");
    }

    private static void branches() {
        is("<if(w)>1<elseif(q)>2<elseif(q)>3<else>4<endif>", "1", "");
        is("<if(n)>1<elseif(w)>2<elseif(q)>3<else>4<endif>", "2", "");
        is("<if(n)>1<elseif(~1q)>2<elseif(w)>3<else>4<endif>", "3", "1@1");
        is("<if(n)>1<elseif(n)>2<elseif(n)>3<else>4<endif>", "4", "");
        is("<if(n)>1<elseif(n)>2<endif>.<if(n)><endif><if(w)><endif>", ".", "");
    }

    /** "number, file, and place": those of the TEXT where what is wrong stands. */
    private static void errorFiles() {
        House h = new House();
        int bean = h.bean("B");
        h.property(bean, "x", 0, -2);
        h.attribute("b", bean);
        String five = "t(n,b) ::= <%<zz>|<(n)()>|<('v')(n)>|<b.x>|<b.y>|<trim(n)>|<n; format='no'>%> v() ::= \"\" "
            + "u(n,s={<yy>}) ::= \"<s>\" d ::= [\"k\":{<xx>}] r() ::= \"<@r()><@s><ww><@end>\"";
        String six = "import 5 @r.r() ::= \"<vv><@super.r()>\" main(n,b) ::= <%<t(n,b)><u(n)><u(n,{<uu>})><d.k><r()><tt>%>";
        h.file(5, five);
        h.file(6, six);
        House.due("load", h.load(6), "5");
        House.due("text", h.text("main"), "||||||");
        String[] due = {"1@5 zz", "2@5 (n)()", "3@5 ('v')", "5@5 .x", "4@5 .y", "6@5 trim", "9@5 'no'", "1@5 yy", "1@6 uu", "1@5 xx",
            "1@6 vv", "1@5 ww", "1@6 tt"};
        StringBuilder want = new StringBuilder();
        for (String s : due) {
            String file = s.charAt(2) == '5' ? five : six;
            want.append(want.length() == 0 ? "" : " ").append(s, 0, 3).append(':').append(file.indexOf(s.substring(4)));
        }
        House.due("errors", h.errors(), want);
    }

    private static void regions() {
        house().is(T + "main(n) ::= <%<@r>[<w>]<@end><two:{x|<@s><x><i><@end>}><@u()>%>", "[a]a1b2", "").made(7);
        House.text("main(x=\"X\") ::= \"<@r><x><@end>\" @main.r() ::= \"(<x>)\"", "(X)");
        new House().is("main() ::= \"<@r>a<@end><if(false)><@s>b<@end><endif>\"", "a", "").made(2);
    }
}
