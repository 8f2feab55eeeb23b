/** How a text is written (promises 19 to 25), and the bounds that the document names. */
public final class WriteTest {
    public static void main(String[] args) {
        bodies();
        linesOfTags();
        emptyLines();
        indents();
        anchors();
        wraps();
        separators();
        formats();
        tags();
        manyInstances();
        manyValues();
        deep();
        fullWord();
        House.over();
    }

    private static void is(String source, String due) {
        House h = house();
        House.due(source, h.main(source), due);
        House.due("errors of " + source, h.errors(), "");
    }

    /** l: 1, NOTHING, 3; a: "x", NEWLINE, "y". */
    private static House house() {
        House h = new House();
        int one = h.x.number(1);
        int three = h.x.number(3);
        h.attribute("l", h.list(one, -1, three)).attribute("a", h.word("x\ny"));
        return h;
    }

    private static void bodies() {
        is("main() ::= \" a \\n\"", " a \\n");
        is("main() ::= <<\n\n a\n\n>>", "\n a\n");
        is("main() ::= <<\n>>", "");
        is("main() ::= <<>>", "");
        is("main() ::= <%\n  a\n\t b \n\n c%>", "ab c");
        is("main(a) ::= <%<tr\n  ue><'p\n  q'>%>", "truepq");
        is("main() ::= \"\\<a\\>\\\\}\\}\\\"", "<a\\>\\}}\\");
        is("delimiters \"$\", \"$\" main() ::= \"<$true$>\\$\\<\"", "<true>$\\<");
        is("delimiters \"%\", \"#\" main() ::= \"%{x|%true#\\}\\%}#\"", "true}%");
    }

    private static void linesOfTags() {
        is("main(a) ::= <<\n1\n  <if(a)> \t\n2\n <else>\n3\n<endif>\n4\n>>", "1\n2\n4");
        is("main(a) ::= <<\n<if(n)>\n2\n<elseif(a)>\n3\n <endif>\n>>".replace("main(a)", "main(a,n)"), "3\n");
        is("main(a) ::= <<\n1\n <@r>\n 2\n <@end>\n3\n <!c\nc!>\n4\n>>", "1\n 2\n3\n4");
        is("main(a) ::= <<\n <if(a)>1<endif>\n<!c!>x\n<!c!><!d!>\n.>>", " 1\nx\n\n.");
        is("main() ::= <<\n<{  <if(true)>\n  1\n  <endif> }>>>".replace(">>>", ">\n>>"), "  1\n");
        is("main() ::= <<\n<@r()> \n1\n>>", " \n1");
        is("main() ::= <<\n1 <\\\\> \n  2<\\\\>\n<if(true)>\n3<endif>\n>>", "1 2\n3");
    }

    private static void emptyLines() {
        is("main(n) ::= <<\n1\n<n>\n<n><n>\n2\n <n> \n3\n>>", "1\n2\n \n3");
        is("main(n) ::= <<\n1\n\n<n>.\n<if(n)>x<endif>\n<@r()>\n2\n>>", "1\n\n.\n2");
        is("main(a) ::= <<\n<if(a)>\n<endif>\n\n2\n>>", "2");
        is("main(a) ::= <<\n<if(a)>\n.\n<endif>\n\n2\n>>", ".\n\n2");
        is("main(n) ::= <<\n<n><\\n>\n<n>\n2\n>>", "\n\n2");
        is("main(n) ::= <<\n<({<n>\n<n>.\n<n>\n})>|\n>>", ".\n|");
        is("t() ::= <<\n\n\n>> main() ::= <<\n<t()>\n.\n>>", "\n\n.");
    }

    private static void indents() {
        is("main(a) ::= <<\n  <a>\n\t<a> <a>\n>>", "  x\n  y\n\tx\n\ty x\ny");
        is("t(a) ::= <<\n <a>\n<a>\n>> main(a) ::= <<\n  <t(a)>.\n>>", "   x\n   y\n  x\n  y.");
        is("main(a) ::= <<\n  <@r()>\n.\n>> @main.r() ::= <<\n <a>\n>>", "   x\n   y\n.");
        is("main(a) ::= <<\n <({\n  <a>\n})>\n>>", "\n   x\n   y\n");
        is("main(l) ::= <<\n <l; separator={\n}>\n>>", " 1\n 3");
        is("main(a) ::= \"<{  <a>}>\"", "  x\n  y");
        is("main(a) ::= \".<{  <a>}>\"", ".x\n  y");
        is("main() ::= <<\n  <{\n\n\n1}>\n>>", "\n\n\n  1");
    }

    private static void anchors() {
        is("main(a) ::= \"ab<a; anchor>c<a>\"", "abx\n  ycx\ny");
        is("main(a) ::= \"ab<a; anchor=false><a; anchor=a>\"", "abx\nyx\n y");
        is("main(a) ::= \"ab<{<a; anchor>:<a>}; anchor>\"", "abx\n  y:x\n  y");
        is("main(a) ::= \"ab<{c<a; anchor><a>}; anchor>\"", "abcx\n   yx\n  y");
        is("main(a) ::= \"ab<{<\\n><a; anchor>}; anchor>\"", "ab\nx\ny");
        is("main(a) ::= <<\n a<{\n  <a>}; anchor>\n>>", " a\n  x\n  y");
        is("main(a) ::= \"ab<({<a>}); anchor>\"", "abx\n  y");
    }

    private static void wraps() {
        House h = house();
        h.x.width(4);
        House.due("ahead of bytes", h.main("main(l) ::= \"<['abc','de','f','g']; wrap>\""), "abcde\nfg");
        House.due("other bytes", h.main("main(l) ::= \"<['abcd','e','f']; wrap='-'>\""), "abcd-e-f");
        House.due("separators stay", h.main("main(l) ::= \"<['abcd','e','f']; wrap, separator=', '>\""), "abcd, \ne, f");
        House.due("indents and anchors", h.main("main(l) ::= <<\n <['abcd','e','f']; wrap>\n.<{..<['abcd','e','f']; wrap, anchor>}>\n>>"),
            " abcd\n ef\n...abcd\n   e\n   f");
        House.due("an instance", h.main("main(l) ::= \"abcd<{ef}; wrap><{gh}; wrap>\""), "abcd\nefgh");
        House.due("not at a beginning", h.main("main(l) ::= \"abcd<\\n><'e'; wrap>\""), "abcd\ne");
        House.due("NOTHING", h.main("main(n) ::= \"abcd<n; wrap, null='x'><'y'; wrap=n>\""), "abcdxy");
        House.due("at once", h.main("main(l) ::= \"abcd<''; wrap>\""), "abcd\n");
        House.due("not in words", h.main("main(l) ::= \"<({abcd<'e'; wrap>})>\""), "abcde");
        h.x.width(0);
        House.due("without a width", h.main("main(l) ::= \"<['abcdefgh','i']; wrap>\""), "abcdefghi");
    }

    private static void separators() {
        is("main(l,n) ::= \"<l; separator=','>,<l; separator=',', null='-'>,<l; separator=n, null=n>\"", "1,3,1,-,3,13");
        is("main(l,n) ::= \"<[n,'',n,{},[],l]:{x|<x>}; separator='.'>\"", "..1.3");
        is("main(l,n) ::= \"<[[],[l],['a']]; separator='.'>\"", "1.3.a");
        is("main(l,n) ::= \"<n; null='N'>,<n; null=l>,<n; null={<true>}>,<n; null=n>\"", "N,13,true,");
        is("main(l) ::= \"<l; separator=l>\"", "1133");
        is("main(l) ::= \"<reverse(l); separator={<true>}>\"", "3true1");
    }

    private static void formats() {
        House h = new House();
        int neg = h.x.number(-7);
        h.attribute("w", h.word("aZ<&>\" -_.%\u00e9")).attribute("n", neg).attribute("b", h.bean("be"));
        String t = "main(w,n,b,z) ::= \"%\"";
        House.due("upper", h.main(t.replace("%", "<w; format='upper'>")), "AZ<&>\" -_.%\u00e9");
        House.due("lower", h.main(t.replace("%", "<w; format='lower'>")), "az<&>\" -_.%\u00e9");
        House.due("cap", h.main(t.replace("%", "<w; format='cap'><''; format='cap'><'-a'; format='cap'>")), "AZ<&>\" -_.%\u00e9-a");
        House.due("xml", h.main(t.replace("%", "<w; format='xml'>")), "aZ&lt;&amp;&gt;&quot; -_.%\u00e9");
        House.due("url", h.main(t.replace("%", "<w; format='url'>")), "aZ%3C%26%3E%22%20-_.%25%E9");
        House.due("digits", h.main(t.replace("%", "<n; format='4'>|<n; format='04'>|<n; format='1'>|<'a'; format='12'>|<true; format='06'>|<n; format='0'>|<'-'; format='03'>")),
            "  -7|-007|-7|           a|00true|-7|-00");
        House.due("of each", h.main(t.replace("%", "<[n,'a']; format='3', separator='x'>")), " -7x  a");
        House.due("not of an instance", h.main(t.replace("%", "<{a}; format='upper'><('a'); format={up<'per'>}>")), "aA");
        House.due("NOTHING", h.all(t.replace("%", "<'a'; format=z>")), "a||1|2");
        House.due("none such", h.all(t.replace("%", "<['a','b']; separator='-', format= 'Upper'>")), "a-b|9@0:54|1|2");
        House.due("none such", h.main(t.replace("%", "<'a'; format='123'><'a'; format=''><'a'; format='1a'><'a'; format='up'>")), "aaaa");
        House.due("errors", h.x.look(4), 4);
    }

    private static void tags() {
        is("main() ::= \"<\\n><\\t><\\ ><\\n\\t\\ >\"", "\n\t \n\t ");
        is("main() ::= \"a<!<x>}\\>!>b\"", "ab");
        is("main() ::= \"< true ><[ true , false ] ; separator = '-' >< @ r ( ) >\"", "truetrue-false");
        is("main() ::= \"<{x,y}><{x|y}><{|}><{ x , y |z}><{9|}>\"", "x,yy|z9|");
    }

    private static void manyInstances() {
        House h = new House();
        int[] hundred = new int[100];
        java.util.Arrays.fill(hundred, h.x.truth(true));
        h.attribute("l", h.list(hundred));
        String s = "main(l) ::= \"<l:{x|<l:{y|.}>}>\"";
        // the root, 100 of the outer list, 100 of each of 18 inner ones, 99 of the next one
        h.file(0, s);
        h.load(0);
        h.begin("main");
        House.due("2000", h.run(12000) + " " + h.x.look(3) + " " + h.errors() + " " + h.x.look(6), "2 1800 8@0:19 2000");
        House.due("the last byte", h.x.byteOf(1799) + " " + h.x.byteOf(1800), (int) '.' + " -1");
    }

    private static void manyValues() {
        House h = new House();
        int[] hundred = new int[100];
        java.util.Arrays.fill(hundred, -1);
        int l = h.list(hundred);
        java.util.Arrays.fill(hundred, l);
        int m = h.list(hundred);
        h.attribute("m", m);
        // the root, then m: itself, 100 lists and 10000 values; so five of them and 9494 more
        House.due("60000 values", h.all("main(m) ::= \".<m>.<m>.<m>.<m>.<m>.<m>\""), "......|8@0:34|1|3");
        int[] most = new int[93];
        java.util.Arrays.fill(most, l);
        h.attribute("k", h.list(most));
        most = new int[99];
        java.util.Arrays.fill(most, -1);
        h.attribute("q", h.list(most));
        String s = "main(z) ::= \"<m><m><m><m><m><k><q>";
        House.due("just 60000", h.all(s + "\""), "||1|2");
        House.due("one more", h.all(s + "<z>\""), "|8@0:34|1|3");
    }

    /** What is left out of a WORD is written all the same, and soon: here 3000 times 1500 bytes. */
    private static void fullWord() {
        House h = new House();
        int line = h.word("\nx".repeat(750));
        int[] hundred = new int[100];
        java.util.Arrays.fill(hundred, line);
        int many = h.list(hundred);
        java.util.Arrays.fill(hundred, 0, 30, many);
        h.attribute("l", h.list(java.util.Arrays.copyOf(hundred, 30)));
        h.attribute("b", h.bean("bean"));
        String s = "main(l, b) ::= \"<strlen({" + " ".repeat(1000) + "<l><b><l.x>})>\"";
        House.due("a full word", h.all(s), "1000|4@0:" + s.indexOf(".x") + "|2|2");
        House.due("looked at behind its end", h.looks(), "3.-1");
        House.due("the next word is a new one", h.main("main(l) ::= \"<strlen(l)>,<strlen({ab})>,<(['c'])>\""), "1000,2,c");
    }

    private static void deep() {
        House h = new House();
        int v = h.list(h.x.number(1), h.x.number(2));
        for (int i = 0; i < 60; i++) {
            v = h.list(v, 0);
        }
        h.attribute("l", v);
        House.due("lists in lists", h.main("main(l) ::= \"<l; separator={.}>\""), "1.2" + ".1".repeat(60));
        h.file(0, "main(l) ::= \"<l; separator={<main(l)>}>\"");
        h.load(0);
        h.begin("main");
        House.due("in instances", h.run(12000) + h.x.error(0, 0), "27");
        new House().is("main() ::= \"~1<((((((((((((((((((main()))))))))))))))))))>.\"", ".".repeat(30), "7@1");
    }
}
