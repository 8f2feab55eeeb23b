/** How a text is written, at the bounds of each rule (promises 18 to 20): LINES OF A TAG, NEWLINES
 * that are left out, separators, null, FORMATs, INDENTs, ANCHORs, wrapping. */
public final class WriterBoundsTest {
    public static void main(String[] args) {
        linesOfTags();
        noLinesOfTags();
        linesOfSubs();
        whereIndentsStand();
        newlinesLeftOut();
        newlinesOfBranches();
        newlinesOfWriters();
        separators();
        nulls();
        letters();
        xmlAndUrl();
        digits();
        noFormats();
        indents();
        anchors();
        anchorsTold();
        widths();
        wraps();
        wrapsAndMargins();
        words();
        lookedAt();
        lookedAtAheadOfWrap();
        House.over();
    }

    /** l: "1", NOTHING, "3"; x: "x", NEWLINE, "y"; b: a BEAN; n: NOTHING; o: "o". */
    private static House house() {
        House h = new House();
        int one = h.word("1");
        int three = h.word("3");
        h.attribute("l", h.list(one, -1, three)).attribute("x", h.word("x\ny")).attribute("b", h.bean("B"));
        h.attribute("o", h.word("o"));
        return h;
    }

    /** Of a BIG with these lines. */
    private static void is(String lines, String text) {
        house().is("main(n) ::= <<\n" + lines + "\n>>", text, "");
    }

    // ---- "just one of the TAGS if, elseif, else, endif, @NAME (without ()), @end or a comment"

    private static void linesOfTags() {
        is("1\n<if(o)>\n2\n<endif>\n3", "1\n2\n3");
        is("1\n \t<if(o)>\t \n2\n \t <endif> \t\n3", "1\n2\n3");
        is("1\n<if(n)>\n2\n <elseif(o)> \n3\n <else> \n4\n<endif>\n5", "1\n3\n5");
        is("1\n<if(n)>\n2\n<else>\n4\n<endif>\n5", "1\n4\n5");
        is("1\n <@r> \n2\n <@end> \n3", "1\n2\n3");
        is("1\n <!\nc\n!> \n2", "1\n2");
        is(" <if(\no\n)> \n1\n<endif\n>", "1\n");
        is("<if(o)>\n1\n<endif>", "1\n");
        is(" <!c!>", "");
        is("1\n <!c!>", "1\n");
        is("1\n<!c!>\n<!c!>\n2", "1\n2");
        is("1<if(o)>\n2\n<endif>\n3", "1\n2\n3");
        House.text("main(n) ::= \" \t<!c!>\t \"", "");
        House.text("main(n) ::= <%  <!c!> \n %>", "");
        House.text("main() ::= <<\n <if([{\n}])> \n1\n<else>\n2\n<endif>\n>>", "1\n");
    }

    private static void noLinesOfTags() {
        is(" <if(o)>1\n<endif>2", " 1\n2");
        is(" <!c!>.\n <!c!> <!c!> \n.<!c!>", " .\n   \n.");
        is(" <if(o)><endif> \n1", "  \n1");
        is("1\n <!c!><o>\n <o><!c!> \n2", "1\n o\n o \n2");
        is(" <@r()> \n1", " \n1");
        is(" <\\n> \n1", " \n \n1");
        is(" <!c!><\\ > \n1", "   \n1");
        is("1 <if(o)> \n2 <endif>3", "1  \n2 3");
        is(" <@r> <@end> \n1", "   \n1");
        is(" <if(o)><!c!>\n<endif>1", " \n1");
        is("\\\\<!c!>\n.", "\\\n.");
        is("<\\n> <if(o)> \n1<endif>", "\n  \n1");
        is("<\\n><!c!>\n.", "\n\n.");
        is("<\\\\>\n <!c!> \n.", " \n.");
        is("<\\\\>\n<if(o)>\n1<endif>", "\n1");
        is("<@r()> <if(o)> \n1<endif>", "  \n1");
        is("<@r()><!c!>\n.", ".");
        is("<n><!c!> \n.", " \n.");
    }

    private static void linesOfSubs() {
        is("<{ <!c!> }>.", ".");
        is("<{ <!c!> \n1}>.", "1.");
        is("<{x| <!c!> }>.", ".");
        is("<{1\n <!c!>}>.", "1\n.");
        is("<{ <if(o)>\n1\n <endif> }>.", "1\n.");
        is("<{ <!c!>\\}}>.", " }.");
        is("<{ <!c!> {}>.", "  {.");
        House.text("main(s={ <!c!>\n1}) ::= \"<s>\"", "1");
    }

    /** "32 and 9 at the beginning of another line, directly ahead of a TAG that is an EXPR or @..()". */
    private static void whereIndentsStand() {
        is(" \t<x>", " \tx\n \ty");
        is("  <n>.", ".");
        is("  <{}>.", ".");
        is("  <@r()>.", ".");
        is("  <@r>.<@end>", "  .");
        is("  <if(o)>.<endif>", "  .");
        is("  <!c!><x>", "  x\ny");
        is("  .<x>", "  .x\ny");
        is(".  <x>", ".  x\ny");
        is("  <\\n><x>", "  \nx\ny");
        is("  <o> <x>", "  o x\ny");
        is("  <n> <x>", " x\ny");
        is("<if(o)>  <x><endif>", "  x\ny");
        is("<if(o)>\n  <x><endif>", "  x\n  y");
        is("<\\\\>\n  <x>", "x\ny");
        is("<\\n>  <x>", "\n  x\ny");
        is("<\\t>  <x>", "\t  x\ny");
        is("<@r()>  <x>", "  x\ny");
        is("<!c!>  <x>", "  x\ny");
        is("<@r>  <x><@end>", "  x\ny");
        is(".<{  <x>}>", ".x\n  y");
        is(".<{<if(o)>  <x><endif>}>", ".  x\ny");
        is("1\n\t<@r>2<@end>\n\t<@s()>3", "1\n\t2\n3");
    }

    // ---- "A NEWLINE of a TEXT is left out, if .. an EXPR, if or region stood, and .."

    private static void newlinesLeftOut() {
        is("<n>\n.", ".");
        is("<if(n)>x<endif>\n.", ".");
        is("<@r()>\n.", ".");
        is("<@r><@end>\n.", ".");
        is("\n.", "\n.");
        is("<!c!><!c!>\n.", "\n.");
        is("<''>\n.", ".");
        is("<{}>\n.", ".");
        is("<[]>\n.", ".");
        is("<o>\n.", "o\n.");
        is(" <n>\n.", ".");
        is("<n> \n.", " \n.");
        is("<if(o)> <endif>\n.", " \n.");
        is("<n><\\n>\n.", "\n\n.");
        is("<\\n>\n.", "\n\n.");
        is("<n>\n\n.", "\n.");
        is("\n<n>\n.", "\n.");
        is("a\n<n>\n<n>\n\n<n>b", "a\n\nb");
        is("<n><!c!>\n.", ".");
        is("<n><\\\\>\n\n.", ".");
        is("<n>x<n>\n.", "x\n.");
        is("<['','']; separator='\\n'>\n.", "\n\n.");
        is("<n; null=''>\n.", ".");
    }

    /** "in the same TEXT (or its beginning; a branch, a region has a TEXT of its own)". */
    private static void newlinesOfBranches() {
        is("<n><if(o)>\n<endif>.", "\n.");
        is("<n><if(o)>x\n\n<n>\n<endif>.", "x\n\n.");
        is("<if(o)><n>\n<endif>.", ".");
        is("<if(n)><else>\n<endif>.", "\n.");
        is("<n><@r>\n<@end>.", "\n.");
        is("<@r><n>\n<@end>.", ".");
        is("a<if(o)><n>\n<endif>.", "a.");
        is("a<@r><n>\n<@end>.", "a.");
        is("a<{<n>\n}>.", "a.");
        is("<if(o)>a\n<endif>\n.", "a\n.");
        is("<if(o)>a\n<endif>b\n.", "a\nb\n.");
        is("<if(o)>\n<endif>\n.", ".");
        is("a<if(n)>\nx\n<endif>\n.", "a.");
        is("a<if(n)>\nx\n<endif><n>\n.", "a\n.");
        is("<n>\n<if(o)>\n\n<endif>\n.", "\n.");
        is("1\n<if(o)>\n<endif>\n2", "1\n2");
        is("1\n<if(n)>\n<endif>\n2", "1\n2");
        is("1\n<if(n)>\n<endif>2", "1\n2");
        is("1\n<if(n)>\n<endif>\n\n2", "1\n2");
    }

    private static void newlinesOfWriters() {
        is("<({<n>\n.})>", ".");
        is("<('')>\n.", ".");
        is("<if(strlen('abc'))><endif>\n.", ".");
        is("<n; null=('abc')>\n.", "abc\n.");
        is("a<({<n>\n})><n>\n<('x')>\n.", "a\nx\n.");
        is("<if(n)><endif><({x})>\n.", "x\n.");
    }

    // ---- Separators and null

    private static void separators() {
        is("<l; separator='.'>|<l; separator='.', null='-'>|<l; separator='.', null=''>|<l; separator=n, null='-'>", "1.3|1.-.3|1..3|1-3");
        is("<[n,n]; separator='.'>|<[n,n]; separator='.', null='-'>|<[n,o,n]; separator='.'>|<[]; separator='.', null='-'>", "|-.-|o|");
        is("<['',n,'',{}]; separator='.'>|<o; separator='.'>|<n; separator='.', null='-'>", "..|o|-");
        is("<[d,d]; separator='.'>|<[d,'x',d]; separator='.'>|<d; separator='.'>\n>> d ::= [\"k\":\"v\",\"l\":key] e() ::= <<\n",
            "v.l.v.l|v.l.x.v.l|v.l");
        House h = new House();
        int empty = h.x.list();
        int o = h.word("o");
        int two = h.list(o, -1);
        int nots = h.list(-1);
        h.attribute("l", h.list(empty, two, -1, empty, nots, o));
        h.is("main(l,n) ::= \"<l; separator='.'>|<l; separator='.', null='-'>|<l; separator=l>|<l; separator=['<','>']>|<l; separator={<true>}>\"",
            ".o...o|.o.-.-..-.o|oooooooooo|<>o<><><>o|trueotruetruetrueo", "");
    }

    private static void nulls() {
        is("<n; null='N'>|<n; null=n>|<n; null=l>|<n; null={<o>}>|<n; null=true>|<n; null=[n]>", "N||13|o|true|");
        is("<o; null='N'>|<''; null='N'>|<[]; null='N'>|<[n]; null='N'>|<(n); null='N'>|<false; null='N'>", "o|||N||false");
        is("<n; null=l, separator='.'>|<n; null='a', format='upper'>|<[n,'a']; null='a', format='upper'>", "13|a|aA");
        house().is("main(n) ::= \"<o; null=~1q>\"", "o", "1@1");
    }

    // ---- FORMATs

    private static String every() {
        StringBuilder s = new StringBuilder();
        for (int i = 0; i < 256; i++) {
            s.append((char) i);
        }
        return s.toString();
    }

    private static void formatted(String format, String word, String due) {
        House h = new House();
        h.attribute("w", h.word(word)).attribute("f", h.word(format));
        h.is("main(w,f) ::= \"<w; format=f>\"", due, "");
    }

    private static void letters() {
        StringBuilder upper = new StringBuilder();
        StringBuilder lower = new StringBuilder();
        for (char c : every().toCharArray()) {
            upper.append(c >= 'a' && c <= 'z' ? (char) (c - 32) : c);
            lower.append(c >= 'A' && c <= 'Z' ? (char) (c + 32) : c);
        }
        formatted("upper", every(), upper.toString());
        formatted("lower", every(), lower.toString());
        String[] of = {"", "a", "z", "A", "@a", "`a", "{a", "ab", "zZ", " a", "\u00e4", "aBC aBC"};
        String[] cap = {"", "A", "Z", "A", "@a", "`a", "{a", "Ab", "ZZ", " a", "\u00e4", "ABC aBC"};
        for (int i = 0; i < of.length; i++) {
            formatted("cap", of[i], cap[i]);
        }
        house().is("main(n) ::= \"<['ab',b,true,'cd']; format='cap', separator='ef'><[{ab},l,'x']; format='upper'>\"", "AbefBefTrueefCdab13X", "");
    }

    private static void xmlAndUrl() {
        StringBuilder xml = new StringBuilder();
        StringBuilder url = new StringBuilder();
        for (char c : every().toCharArray()) {
            xml.append(c == '&' ? "&amp;" : c == '<' ? "&lt;" : c == '>' ? "&gt;" : c == '"' ? "&quot;" : "" + c);
            boolean stays = c < 128 && (Character.isLetterOrDigit(c) || c == '-' || c == '_' || c == '.');
            url.append(stays ? "" + c : String.format("%%%02X", (int) c));
        }
        formatted("xml", every(), xml.toString());
        formatted("url", every().substring(0, 128), url.substring(0, url.indexOf("%80")));
        formatted("url", every().substring(128), url.substring(url.indexOf("%80")));
        formatted("xml", "", "");
        formatted("url", "&amp;~", "%26amp%3B%7E");
    }

    private static void digits() {
        String[] of = {"7", "42", "-5", "-", "", "abc", "-abc", "1234567890", "--1"};
        for (int n = 0; n < 100; n += n < 12 ? 1 : 29) {
            for (String s : of) {
                String pad = " ".repeat(Math.max(0, n - s.length()));
                String zeros = pad.replace(' ', '0');
                if (n > 0) {
                    formatted("" + n, s, pad + s);
                }
                if (n < 10) {
                    formatted("0" + n, s, s.startsWith("-") ? "-" + zeros + s.substring(1) : zeros + s);
                }
            }
        }
        formatted("0", "7", "7");
        formatted("0", "", "");
        formatted("00", "-7", "-7");
        formatted("99", "x", " ".repeat(98) + "x");
        House h = new House();
        h.attribute("a", h.x.number(Long.MIN_VALUE)).attribute("b", h.x.number(-7)).attribute("c", h.x.truth(true)).attribute("d", h.bean("B"));
        h.is("main() ::= \"<[a,b,c,d]; format='05', separator='|'>|<[a,b,c,d]; format='5', separator='|'>\"",
            "-9223372036854775808|-0007|0true|0000B|-9223372036854775808|   -7| true|    B", "");
    }

    /** "another one: ERROR 9, once, as the option is worked out, and as if it were not told". */
    private static void noFormats() {
        for (String f : new String[] {"", " ", "Upper", "uppe", "upperr", " upper", "123", "000", "1a", "a1", "-1", "+1", "1.", "1 ", ":", "1:", ":1", "/", "1/", "/1", "xm", "urls", "cap "}) {
            House h = new House();
            h.attribute("f", h.word(f)).attribute("w", h.word("a<"));
            h.is("main(f,w) ::= \"<[w,w]; separator='.', format=~1f>\"", "a<.a<", "9@1");
        }
        house().is("main(n) ::= \"<'a'; format=n><n; format=~1{x}><[]; format= ~2'y' ><'a'; null=~3q, format=~4q, wrap=~5q>\"", "aa",
            "9@1 9@2 1@3 1@4 1@5");
        house().is("main(n) ::= \"<~2q; format=~1'y'><'a'; format={up<'per'>}><'a'; format=['up','per']>\"", "AA", "9@1 1@2");
        house().is("main(n) ::= \"<'a'; format=~1({upper<\\n>})><'a'; format=~2true>\"", "aa", "9@1 9@2");
    }

    // ---- INDENTs and ANCHORs

    private static void indents() {
        is(" <{  <{   <x>\n}>\n}>", "      x\n      y\n\n");
        is(" <{.\n\n.}>", " .\n\n .");
        is(" <{\n}>.", "\n.");
        is(" <x>\n<x>\n  <x>", " x\n y\nx\ny\n  x\n  y");
        is(" <['a\\n','b']>c", " a\n bc");
        is(" <['a\\n']>b", " a\nb");
        is(" <[o,o]; separator='\\n'>", " o\n o");
        is(" <@r()>\n.\n>> @main.r() ::= <<\na\n\n  <x>", " a\n\n   x\n   y\n.");
        is("\t<x>", "\tx\n\ty");
        is(" <({ <x>})>", "  x\n  y");
    }

    private static void anchors() {
        is("ab<x; anchor>", "abx\n  y");
        is("<x; anchor>", "x\ny");
        is("a<\\n><x; anchor>", "a\nx\ny");
        is("ab<{cd<x; anchor><x>}; anchor>", "abcdx\n    yx\n  y");
        is("abcd<{<\\n><x; anchor>ef<x; anchor>}; anchor>", "abcd\nx\nyefx\n   y");
        is("abcd<{<\\n>a<x; anchor>}; anchor>", "abcd\n    ax\n     y");
        is(" ab<{\n  <x>}; anchor>", " ab\n   x\n   y");
        is("a<{\n   <x>}; anchor>", "a\n   x\n   y");
        is("abcd<{\n  <x>}; anchor>", "abcd\n    x\n    y");
        is("ab<['\\n','c']; anchor>d<x>", "ab\n  cdx\ny");
        is("ab<(x); anchor><({ab<x; anchor>})>", "abx\n  yabx\n  y");
        is(" a<x; anchor>", " ax\n  y");
    }

    private static void anchorsTold() {
        String[] told = {"anchor", "anchor=true", "anchor=o", "anchor=''", "anchor=[n]", "anchor={}", "anchor=b"};
        String[] not = {"anchor=false", "anchor=n", "anchor=[]", "anchor=m.zz", "anchor=e"};
        for (String s : told) {
            is("a<x; " + s + ">", "ax\n y");
        }
        for (String s : not) {
            is("a<x; " + s + ">\n>> m ::= [\"k\":true] e ::= [default:true] z() ::= <<\n", "ax\ny");
        }
        is("ab<{<x; anchor=n>}; anchor>", "abx\n  y");
        is("ab<x; anchor={<\\n>}>", "abx\n  y");
    }

    // ---- wrap

    /** What is WRAPPED ahead of the last word, if the COLUMN is that of the first one's end. */
    private static void widths() {
        int[] widths = {0, 1, 2, 3, 4, 5, 999, 1000};
        for (int w : widths) {
            for (int n = 0; n < 6; n++) {
                House h = house();
                h.x.width(w);
                String before = "abcdef".substring(0, n);
                boolean wrapped = w > 0 && n > 0 && n >= w;
                h.is("main() ::= \"" + before + "<'x'; wrap='-'>\"", before + (wrapped ? "-x" : "x"), "");
            }
        }
        House h = house();
        h.x.width(3);
        h.is("main() ::= \"ab<x; wrap><o; wrap>cd<o; wrap>e<{f}; wrap>\"", "abx\nyocd\noef", "");
        h.is("main() ::= <<\nabc<\\n><o; wrap>\n  <['a','b','c']; wrap>\n>>", "abc\no\n  a\n  b\n  c", "");
    }

    private static void wraps() {
        House h = house();
        h.x.width(2);
        h.is("main(n) ::= \"ab<''; wrap>c\"", "ab\nc", "");
        h.is("main(n) ::= \"ab<{}; wrap>c\"", "ab\nc", "");
        h.is("main(n) ::= \"ab<n; wrap>c<[]; wrap>d<n; wrap, null='x'>e<[n]; wrap, null={y}>\"", "abcdxey", "");
        h.is("main(n) ::= \"ab<['c','d','e','f']; wrap, separator=','>\"", "ab\nc,\nd,\ne,\nf", "");
        h.is("main(n) ::= \"ab<o; wrap=''>c<o; wrap=n>d<o>e<o; wrap='-'>\"", "abocodoe-o", "");
        h.is("main(n) ::= \"ab<o; wrap={<\\n>}>c<o; wrap=['-','\\n','=']>d<o; wrap>\"", "ab\noc-\n=od\no", "");
        h.is("main(n) ::= \"ab<['',b,true]; wrap>\"", "ab\nBtrue", "");
        h.is("main(n) ::= \"ab<{<o; wrap>}; wrap>\"", "ab\no", "");
        h.is("main(n) ::= \"ab<o; wrap, format='cap'>\"", "ab\nO", "");
        h.is("main(n) ::= \"abc<[{},{}]; wrap='-'>\"", "abc--", "");
        h.is("main(n) ::= \"ab<({cd<'e'; wrap>}); wrap>\"", "ab\ncde", "");
        h.is("main(n) ::= \"<['ab','cd']:{x|<x>}; wrap>\"", "ab\ncd", "");
        h.is("main(n) ::= \"<{ab<@r>c<@end><@s()>d<o>}; wrap='-'><o; wrap='-'>\"", "abcdo-o", "");
        h.is("main(n) ::= \"<{<(l)><n><l><o>}; separator='.', null='-', format='upper'>\"", "1313o", "");
    }

    /** "each NEWLINE among them followed by the INDENTs and blanks at once (it is not AT A LINE'S BEGINNING then)". */
    private static void wrapsAndMargins() {
        House h = house();
        h.x.width(3);
        h.is("main(n) ::= <<\n <['ab','c','d']; wrap>\n>>", " ab\n cd", "");
        h.is("main(n) ::= <<\n <['ab','']; wrap>\n.\n>>", " ab\n \n.", "");
        h.is("main(n) ::= \"ab<{c<['d','e']; wrap>}; anchor>\"", "abc\n  d\n  e", "");
        h.is("main(n) ::= <<\n <{abc<'d'; wrap='\\n\\n-'>}>\n>>", " abc\n \n -d", "");
    }

    /** "on one new WRITER, without the INDENTs and ANCHORs that are around, and without a WIDTH". */
    private static void words() {
        House h = house();
        h.x.width(2);
        h.is("main(n) ::= <<\n  abcd<({ <x>ab<o; wrap><x; anchor>}); anchor, wrap>\n>>",
            "  abcd\n       x\n       yabox\n           y", "");
        h.is("main(n) ::= <<\n  <{.<({<x>})>}>\n>>", "  .x\n  y", "");
        h.is("main(n) ::= <<\n  <if([({a\n})])>.<endif>\n  <strlen({\n <x>\n})>\n>>", "  .\n  7", "");
    }

    /** Its bytes are LOOKED AT; "if wrap is told, the line may be WRAPPED ahead of them". */
    private static void lookedAtAheadOfWrap() {
        House h = house();
        h.x.width(2);
        h.file(0, "main() ::= \"ab<b; wrap='-='><b; wrap>\"");
        House.due("load", h.load(0), "1");
        h.begin("main");
        StringBuilder looks = new StringBuilder();
        while (h.run(1).equals("0")) {
            looks.append(h.x.look(5));
        }
        House.due("text", h.bytes(), "ab-=B\nB");
        House.due("LOOKS behind each byte", looks.toString(), "0011122");
    }

    /** "of a BEAN its WORD, which is LOOKED AT", each time. */
    private static void lookedAt() {
        House h = house();
        h.is("main(n) ::= \"<b><[b,b]><(b)><strlen(b)><trim(b)><b; format='upper'><if(b)><endif><first(b)><n; null=b><l; separator=b>\"",
            "BBBB1BBBB1B3", "");
        House.due("looks", h.x.look(5), 10);
        h.is("main(n) ::= \"<length(b)><b:{}><b:{x|}><[b]:{}><d.(b)><'x'; format=~1b, wrap=b, anchor=b>\" d ::= [\"B\":\"v\"]", "1vx", "9@1");
        House.due("looks", h.x.look(5), 3);
    }
}
