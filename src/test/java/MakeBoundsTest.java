import java.util.Arrays;

/** The bounds of what a text makes: INSTANCES, values WRITTEN, WORDs, LISTs, INSTANCES within one
 * another, bytes, each by all that counts towards it (promises 19 to 25, ERRORS 7 and 8). Each
 * object is used for at most 512 calls. */
public final class MakeBoundsTest {
    private static final String DEFS = "d ::= [\"k\":\"\", \"s\":\"\"] e ::= [\"k\":{}, default:{}] t() ::= \"\" "
        + "tt(x) ::= \"\" u(x={}) ::= \"\" uu(x,y={}) ::= \"\" ";

    public static void main(String[] args) {
        valuesWritten();
        instancesMade();
        valuesOfLists();
        valuesOfListsAsTheyCome();
        bytesOfWords();
        thousandBytes();
        thousandOfAll();
        hundredItems();
        thirty();
        thirtyInWords();
        thirtyNotWrapped();
        bytesOfTheText();
        bytesByMargins();
        House.over();
    }

    private static int list(House h, int n, int value) {
        int l = h.x.list();
        for (int i = 0; i < n; i++) {
            h.x.add(l, value);
        }
        return l;
    }

    private static String and8(String errors) {
        return errors + (errors.isEmpty() ? "" : " ") + "8@1";
    }

    // ---- "a 60001st value would be WRITTEN"

    /** TAGs that write so many values, nothing of which is to be seen: m is 100 times l. */
    private static String writing(int n) {
        return "<m>".repeat(n / 10101) + "<l>".repeat(n % 10101 / 101) + "<n>".repeat(n % 10101 % 101);
    }

    /** A TAG that writes so many values, the last one at the mark. */
    private static void writes(int values, String marked, String errors) {
        for (int over = 0; over < 2; over++) {
            House h = new House();
            int l = list(h, 100, -1);
            h.attribute("l", l).attribute("m", list(h, 100, l));
            // the root is one
            String fill = writing(59999 - values + over);
            h.is(DEFS + "main(l,m,n) ::= <%" + fill + marked + "%>", "", over == 0 ? errors : and8(errors));
        }
    }

    private static void valuesWritten() {
        writes(1, "~1<n>", "");
        writes(1, "~1<''>", "");
        writes(1, "~1<[]>", "");
        writes(3, "~1<['','']>", "");
        writes(4, "~1<['','']; separator=''>", "");
        writes(3, "~1<['','']; separator=n>", "");
        writes(3, "~1<[n,'']; separator=''>", "");
        writes(6, "~1<[n,n]; separator='', null=''>", "");
        writes(2, "~1<n; null=''>", "");
        writes(3, "~1<n; null=[n]>", "");
        writes(1, "~1<n; null=n>", "");
        writes(1, "~1<{}>", "");
        writes(2, "<{~1<n>}>", "");
        writes(1, "~1<@r()>", "");
        writes(2, "<@r>~1<n><@end>", "");
        writes(2, "~1<('')>", "");
        writes(3, "~1<([''])>", "");
        writes(2, "~1<(n)>", "");
        writes(2, "~1<('t')()>", "");
        writes(2, "~1<'':('tt')()>", "");
        writes(1, "~1<n:('tt')()>", "");
        writes(2, "~1<~2('zz')()>", "2@2");
        writes(1, "~1<~2(n)()>", "2@2");
        writes(2, "~1<''; format='cap'>", "");
        writes(1, "~1<''; format=n>", "");
        writes(2, "~1<''; wrap>", "");
        writes(2, "~1<''; wrap=''>", "");
        writes(1, "~1<''; wrap=n>", "");
        writes(1, "~1<''; anchor, separator='', null=''>", "");
        writes(2, "~1<if(strlen('')&&strlen(''))><endif>", "");
        writes(1, "~1<if(trim(''))><endif>", "");
        writes(1, "~1<if(d.(''))><endif>", "");
        writes(1, "~1<~2strlen(n)>", "6@2");
        writes(3, "<if({})>~1<[n,n]><endif>", "");
        writes(2, "~1<e>", "");
        writes(3, "~1<d>", "");
        writes(1, "<if(d&&e&&{}&&[n,n]&&!n)>~1<n><endif>", "");
    }

    // ---- "a 2001st INSTANCE would be made"

    /** A TAG that makes so many INSTANCES, the last one at the mark; the root is one. */
    private static void makes(int instances, String marked) {
        for (int over = 0; over < 2; over++) {
            House h = new House();
            h.attribute("k", list(h, 100, h.bean("")));
            int n = 1999 - instances + over;
            String fill = "<if([k:{}])><endif>".repeat(n / 100) + "<if({})><endif>".repeat(n % 100);
            h.is(DEFS + "main(k,n) ::= <%" + fill + marked + "%>", "", over == 0 ? "" : "8@1").made(2000);
        }
    }

    private static void instancesMade() {
        makes(1, "~1<{}>");
        makes(1, "~1<if({})><endif>");
        makes(1, "~1<t()>");
        makes(1, "~1<('t')()>");
        makes(2, "~1<u()>");
        makes(1, "~1<u(n)>");
        makes(2, "~1<('u')()>");
        makes(1, "~1<@r()>");
        makes(1, "~1<@r><@end>");
        makes(2, "<@r>~1<@s()><@end>");
        makes(1, "~1<e.k>");
        makes(1, "~1<e.zz>");
        makes(1, "~1<if(length(e))><endif>");
        makes(1, "~1<e>");
        makes(2, "~1<n; null={}, separator={}>");
        makes(1, "~1<'':{}>");
        makes(2, "~1<['',n,'']:{}>");
        makes(2, "~1<'':{}:{}>");
        makes(1, "~1<'':tt()>");
        makes(2, "~1<'':uu()>");
        makes(2, "~1<'':uu({})>");
        makes(2, "~1<[''],['','']:{x,y|}>");
        makes(1, "~1<({})>");
    }

    // ---- "LISTs that are made more than 20000 values in all"

    /** A TAG whose LISTs have so many values; a is a LIST that is made, of 3700 values. */
    private static void lists(int values, String marked) {
        for (int over = 0; over < 2; over++) {
            House h = new House();
            int b = h.bean("");
            int l = list(h, 100, b);
            int m = h.x.map();
            h.entry(m, "k", b);
            h.entry(m, "s", -1);
            for (int i = 0; i < 37; i++) {
                h.attribute("a", l);
            }
            h.attribute("l", l).attribute("m", m);
            int n = 20000 - values + over - 3700;
            String fill = "<if(reverse(a))><endif>".repeat(n / 3700) + "<if(reverse(l))><endif>".repeat(n % 3700 / 100)
                + "<if([n])><endif>".repeat(n % 3700 % 100);
            h.is(DEFS + "main(a,l,m,n) ::= <%" + fill + marked + "%>", "", over == 0 ? "" : "8@1");
        }
    }

    private static void valuesOfLists() {
        lists(1, "~1<if([n])><endif>");
        lists(2, "~1<if([n,])><endif>");
        lists(100, "~1<if([l])><endif>");
        lists(100, "~1<if([l,l])><endif>");
        lists(3, "~1<if([m,n])><endif>");
        lists(1, "~1<if([d])><endif>");
        lists(2, "~1<if(m.keys)><endif>");
        lists(2, "~1<if(m.values)><endif>");
        lists(2, "~1<if(d.keys)><endif>");
        lists(2, "~1<if(d.values)><endif>");
        lists(2, "~1<if(length(d))><endif>");
        lists(2, "~1<if(first(d))><endif>");
        lists(4, "~1<if(reverse(d))><endif>");
        lists(99, "~1<if(rest(l))><endif>");
        lists(99, "~1<if(trunc(l))><endif>");
        lists(100, "~1<if(strip(l))><endif>");
        lists(1, "~1<if(strip(m))><endif>");
        lists(2, "~1<if(reverse(m))><endif>");
        lists(1, "~1<if(reverse(true))><endif>");
        lists(100, "~1<l:{}>");
        lists(2, "~1<m:{}>");
        lists(4, "~1<d:{}>");
        lists(4, "~1<m:{}:{}>");
        lists(2, "~1<m:{},tt()>");
        lists(3, "~1<m,[n]:{x,y|}>");
        lists(4, "~1<d,n:{x,y|}>");
        lists(1, "<if([]||strip(n)||rest(true)||trunc(n))>x<elseif(first(l)&&last(a)&&length(l)&&l&&d&&true)>~1<[n]><endif>");
        lists(1, "<l><m><{}:{}><n:{}>~1<[n]>");
        // the place of an elseif is that of its if
        lists(1, "~1<if(n)>x<elseif([n])><endif>");
        lists(1, "<if(n)>x<elseif(!n)>~1<[n]><endif>");
        lists(1, "~1<if(n)>x<elseif(n)>y<elseif(n||![n])>z<endif>");
        lists(1, "<@r>~1<[n]><@end>");
    }

    /** "those of APPLIED .. counted as they come, behind their INSTANCE; of other LISTs all at once". */
    private static void valuesOfListsAsTheyCome() {
        String[] tags = {"~1<l:{}>", "~1<l,n:{x,y|}>", "~1<l:tt()>", "~1<l:uu()>", "~1<l:('tt')()>", "~1<l; separator={}>~1<reverse(l)>"};
        int[] made = {6, 6, 6, 11, 6, 2};
        for (int i = 0; i < tags.length; i++) {
            House h = new House();
            int l = list(h, 100, h.bean(""));
            for (int j = 0; j < 38; j++) {
                h.attribute("a", l);
            }
            h.attribute("l", l);
            // 3800 and four times that, nine times 100, 96: four more are allowed
            String fill = "<if(reverse(a))><endif>".repeat(4) + "<if(reverse(l))><endif>".repeat(9)
                + "<if([" + "n,".repeat(95) + "])><endif>";
            h.is(DEFS + "main(a,l,n) ::= <%" + fill + tags[i] + "%>", "", "8@1").made(made[i]);
        }
    }

    // ---- "WORDs .. where they would be more than 40000 in all (as one is over)"

    /** A TAG whose WORDs have so many bytes. */
    private static void words(int bytes, String marked, String text, String errors) {
        for (int over = 0; over < 2; over++) {
            House h = new House();
            h.attribute("w", h.word("w".repeat(1000)));
            int n = 40000 - bytes + over;
            String fill = "<if(strlen(w))><endif>".repeat(n / 1000) + "<if(strlen('" + "x".repeat(n % 1000) + "'))><endif>";
            h.is(DEFS + "main(w,n) ::= <%" + fill + marked + "%>", over == 0 ? text : "", over == 0 ? errors : and8(errors));
        }
    }

    private static void bytesOfWords() {
        words(1, "~1<('a')>", "a", "");
        words(1000, "~1<if(strlen(w))><endif>", "", "");
        words(1000, "~1<if([([w,w])])><endif>", "", "");
        words(6, "~1<((('ab')))>", "ab", "");
        words(1, "~1<('t')()>", "", "");
        words(2, "~1<'':('tt')()>", "", "");
        words(1, "~1<d.('k')>", "", "");
        words(3, "~1<'a'; format='cap'>", "A", "");
        words(1, "~1<'a'; wrap>", "a", "");
        words(2, "~1<'a'; wrap='ab'>", "a", "");
        words(2, "~1<('ab'); wrap=n, format=n, separator='xyz', null='x', anchor='abc'>", "ab", "");
        words(5, "~1<if(strlen(' abc '))><endif>", "", "");
        words(5, "~1<trim(' abc ')>", "abc", "");
        words(4, "<if(d&&e&&['abc']&&'abc')>~1<(true)><endif>", "true", "");
        words(1, "~1<~2strlen(n)>~1<('a')>", "a", "6@2");
    }

    /** "WORDs that are made have at most 1000 bytes each (the rest is left out, without an ERROR)". */
    private static void thousandBytes() {
        for (int n = 999; n <= 1002; n++) {
            int kept = Math.min(n, 1000);
            House h = new House();
            h.attribute("w", h.word("w".repeat(n - 1) + "z"));
            String last = n <= 1000 ? "z" : "w";
            h.is("main(w) ::= \"<strlen(w)> <strlen((w))> <strlen(trim(w))> <strlen({a<w>})>\"",
                kept + " " + kept + " " + kept + " " + Math.min(n + 1, 1000), "");
            h.file(0, "main(w) ::= \"<(w)>|<trim(w)>|\"");
            h.load(0);
            h.begin("main");
            h.run(12000);
            String bytes = "" + (char) h.x.byteOf(kept - 1) + (char) h.x.byteOf(kept)
                + (char) h.x.byteOf(2 * kept) + (char) h.x.byteOf(2 * kept + 1);
            House.due("the last byte that is kept", bytes, last + "|" + last + "|");
            House.due("no ERROR", h.x.look(4), 0);
        }
    }

    /** What is left out of a WORD is left out of what is made of that WORD; but it is written. */
    private static void thousandOfAll() {
        House h = new House();
        h.attribute("w", h.word(" ".repeat(998)));
        h.is("main(w) ::= \"<trim({<w>a b})>,<trim({<w>ab})>,<trim({<w> ab})>,<trim({<w>  ab})>,<trim({<w>a<\\n>b})>,"
            + "<strlen({<w>ab<~1zz>c})>\"", "a,ab,a,,a,1000", "1@1");
        h = new House();
        h.attribute("w", h.word("w".repeat(1001)));
        h.is("m ::= [\"w\":key] main(w) ::= \"<~1(w)()><m.(w)><'a'; format=~2w>\"", "a", "2@1 9@2");
    }

    // ---- "to 100 in all; what is more is left out"

    private static void hundredItems() {
        for (int n = 98; n <= 102; n++) {
            String all = "n,".repeat(n - 1) + "'z'";
            new House().is("main(n) ::= \"<length([" + all + "])><last([" + all + "])>\"", Math.min(n, 100) + (n <= 100 ? "z" : ""), "");
        }
        House h = new House();
        int b = h.bean("b");
        int m = h.x.map();
        h.entry(m, "a", -1);
        h.entry(m, "b", b);
        h.attribute("l", list(h, 99, b)).attribute("m", m);
        h.is("d ::= [\"a\":key,\"b\":key] main(l,m) ::= \"<length([l,'x'])> <length([l,m])> <length([m,l])> <length([l,l])> "
            + "<last([l,'x'])> <last([l,m]); null='-'> <last([l,,'x']); null='-'> <length([[l,l],[l]])> <length([d,d])>\"",
            "100 100 100 100 x - - 100 2", "");
        h = new House();
        b = h.bean("b");
        h.attribute("l", list(h, 100, b)).attribute("k", list(h, 100, -1));
        h.is("main(l,k) ::= \"<length([l,k])><last([l,k])><length([l,[]])><length([k,l]:{})>\"", "100b100100", "");
    }

    // ---- "An INSTANCE that would be written within 30 others (in a WORD or not)"

    /** The end is written by an INSTANCE that is within n others. */
    private static String down(int n, String end) {
        StringBuilder s = new StringBuilder("main() ::= \"<t1()>\" ");
        for (int i = 1; i < n; i++) {
            s.append("t").append(i).append("() ::= \"<t").append(i + 1).append("()>\" ");
        }
        return s + "t" + n + "() ::= \"" + end + "\"";
    }

    private static void thirty() {
        new House().is("main() ::= \".~1<main()>\"", ".".repeat(30), "7@1").made(31);
        new House().is("main() ::= \".<{~1<main()>}>\"", ".".repeat(15), "7@1").made(31);
        new House().is(down(28, ".<'x'><{y}>"), ".xy", "").made(30);
        new House().is(down(29, ".<'x'>~1<{y}>z"), ".xz", "7@1").made(31);
        new House().is(down(28, ".<@r>y<@end>z"), ".yz", "").made(30);
        new House().is(down(29, ".~1<@r>y<@end>z"), ".z", "7@1").made(31);
        new House().is(down(28, ".<@r>y~1<@s()><@end>z"), ".yz", "7@1").made(31);
        new House().is(down(29, "~1<{y}; null={z}>~2<[[],'',['']]:{}>~3<['a','b']; separator={s}>"), "ab", "7@1 7@2 7@2 7@3");
        new House().is(down(29, "~1<[{},'a',{}]; separator=','>"), ",a,", "7@1 7@1");
        new House().is(down(29, "<if({y})>a<endif><length({y})>~1<[{y}]; null='n'>"), "a1", "7@1");
        new House().is(down(29, "<if(true)>a~1<{y}><endif>"), "a", "7@1");
        new House().is(down(29, "~1<if(strlen({y}))>a<endif>b~2<if(false)><elseif(strlen({y}))>c<else>d<endif>"), "abc", "7@1 7@2");
    }

    private static void thirtyInWords() {
        new House().is("main() ::= \".~1<(main())>\"", ".".repeat(30), "7@1");
        new House().is(down(29, "~1<({y})>,~2<strlen({y})>,~3<trim({y})>"), ",0,", "7@1 7@2 7@3");
        new House().is(down(28, "<({y})><strlen({yz})>"), "y2", "");
        new House().is(down(29, "~1<~2({y})()>~3<'a'; format=~4{cap}, wrap={w}>"), "a", "7@1 2@2 7@3 9@4 7@3");
        new House().is(down(28, "<({~1<({y})>})>"), "", "7@1");
        new House().is(down(27, "<({<({y})>})>"), "y", "");
    }

    /** "nothing is written, nor is the line WRAPPED for it". */
    private static void thirtyNotWrapped() {
        House h = new House();
        h.x.width(2);
        h.is(down(28, "abc<{d}; wrap>e"), "abc\nde", "");
        h.is(down(29, "abc~1<{d}; wrap>e<'f'; wrap>"), "abce\nf", "7@1");
    }

    // ---- "THE TEXT has at most 12000 bytes: where one more would be put out, ERROR 8"

    /** A text of so many bytes, and what is behind them: it has 12000 bytes then, or it ENDED at
     * the mark. */
    private static void bytes(int before, String tail) {
        House h = new House();
        h.attribute("l", list(h, 99, h.word("w".repeat(120)))).attribute("v", h.word("v".repeat(before - 11880)));
        String marked = "main(l,v) ::= <<<l><v>" + tail + "\n>>";
        int mark = marked.indexOf('~');
        h.file(0, marked.replace("~", ""));
        h.load(0);
        h.begin("main");
        House.due("12000 bytes of " + tail, h.run(12000), "0");
        House.due("behind them", h.run(1) + " " + h.x.look(3) + " " + h.errors(), mark < 0 ? "1 12000 " : "2 12000 8@0:" + mark);
    }

    private static void bytesOfTheText() {
        bytes(12000, "");
        bytes(12000, "<''><!x!><if(l)><endif><@r()><({})>");
        bytes(12000, "~x");
        bytes(12000, "~\n\n");
        bytes(11999, "x");
        bytes(11999, "x~y");
        bytes(11999, "x<if(l)><endif>");
        bytes(11999, "x~\\<");
        bytes(11999, "x~<\\n>");
        bytes(11999, "~<\\n\\n>");
        bytes(11998, "<\\n\\n>");
        bytes(11998, "<'xy'>");
        bytes(11998, "~<'xyz'>");
        bytes(11998, "<['x','y']>");
        bytes(11998, "~<['x','y']; separator='.'>");
        bytes(11998, "<{x}><{y~z}>");
        bytes(11999, "<('x')><if([('xyz')])><endif><if(strlen('xyz'))><endif>");
        bytes(11999, "<@r>x~y<@end>");
        bytes(11999, "<if(l)>x<else>y<endif>");
        bytes(11999, "<if(l)>x~y<endif>");
        bytes(11995, "<'&'; format='xml'>");
        bytes(11996, "~<'&'; format='xml'>");
        bytes(11997, "<'x'; format='3'>");
        bytes(11998, "~<'x'; format='3'>");
        bytes(11997, "<'&'; format='url'>");
        bytes(11998, "~<'&'; format='url'>");
    }

    /** By an INDENT, an ANCHOR, a NEWLINE, wrap. */
    private static void bytesByMargins() {
        bytes(11997, "\n <'x'>");
        bytes(11998, "\n ~<'x'>");
        bytes(11999, "\n ~<'x'>");
        bytes(11998, "\n <@r()>x");
        bytes(11999, "\n <@r()>");
        bytes(11994, "\n  <'a\\n'><'b'>");
        bytes(11991, "\n <'a\\nb\\nc'>");
        bytes(11992, "\n ~<'a\\nb\\nc'>");
        bytes(11992, "\n..<'a\\nb'; anchor>");
        bytes(11993, "\n..~<'a\\nb'; anchor>");
        bytes(11994, "\n..~<'a\\nb'; anchor>");
    }
}
