import java.nio.charset.StandardCharsets;
import java.util.NoSuchElementException;

/** A TemplateHouse with texts instead of tapes, and a count of what is not as due. What is told of an
 * object behind its 512th call is free: the tests keep within that, but for two bounds that lie
 * behind it (ValueBoundsTest), and random runs (ReplayTest). */
final class House {
    static int wrong = 0;
    static int checked = 0;

    final TemplateHouse x = new TemplateHouse();

    /** Each test ends with this. */
    static void over() {
        System.out.println(checked + " checked, " + wrong + " wrong");
        if (wrong > 0) {
            System.exit(1);
        }
    }

    static void due(String what, Object got, Object want) {
        checked++;
        if (!String.valueOf(got).equals(String.valueOf(want))) {
            wrong++;
            int n = what.length();
            String told = n <= 300 ? what : what.substring(0, 60) + " [..] " + what.substring(n - 240);
            System.out.println(told + "\n  answered " + got + "\n  due is   " + want);
        }
    }

    /** Puts the text on the tape. */
    House tape(String s) {
        byte[] b = s.getBytes(StandardCharsets.ISO_8859_1);
        for (int i = 0; i < b.length; i += 20) {
            int n = Math.min(20, b.length - i);
            int[] w = new int[5];
            for (int j = 0; j < n; j++) {
                w[j / 4] |= (b[i + j] & 255) << (24 - 8 * (j % 4));
            }
            x.feed(w[0], w[1], w[2], w[3], w[4]);
            x.end(n);
        }
        return this;
    }

    House file(int k, String s) {
        due("file(" + k + ")", tape(s).x.file(k), true);
        return this;
    }

    /** The answer of load(k), or its FAULT as number@file:place. */
    String load(int k) {
        try {
            return "" + x.load(k);
        } catch (IllegalArgumentException e) {
            return x.fault(0) + "@" + x.fault(1) + ":" + x.fault(2);
        }
    }

    int word(String s) {
        return tape(s).x.word();
    }

    int bean(String s) {
        return tape(s).x.bean();
    }

    int list(int... values) {
        int v = x.list();
        for (int one : values) {
            due("add(" + v + ", " + one + ")", x.add(v, one), true);
        }
        return v;
    }

    boolean entry(int map, String key, int value) {
        return tape(key).x.entry(map, value);
    }

    boolean property(int bean, String name, int sort, int value) {
        return tape(name).x.property(bean, sort, value);
    }

    House attribute(String name, int value) {
        due("attribute " + name, tape(name).x.attribute(value) > 0, true);
        return this;
    }

    /** "" or the exception that begin() throws. */
    String begin(String name) {
        try {
            tape(name).x.begin();
            return "";
        } catch (IllegalStateException e) {
            return "ISE";
        } catch (NoSuchElementException e) {
            return "NSEE";
        }
    }

    String run(int n) {
        try {
            return "" + x.run(n);
        } catch (IllegalStateException e) {
            return "ISE";
        } catch (IllegalArgumentException e) {
            return "IAE";
        }
    }

    String bytes() {
        StringBuilder s = new StringBuilder();
        int b = x.byteOf(0);
        for (int i = 1; b != TemplateHouse.NONE; i++) {
            s.append((char) b);
            b = x.byteOf(i);
        }
        return s.toString();
    }

    /** The ERRORS, each as number@file:place. */
    String errors() {
        StringBuilder s = new StringBuilder();
        for (int i = 0; i < Math.min(400, x.look(4)); i++) {
            s.append(i == 0 ? "" : " ");
            s.append(x.error(i, 0)).append('@').append(x.error(i, 1)).append(':').append(x.error(i, 2));
        }
        return s.toString();
    }

    /** The LOOKS, each as bean.property. */
    String looks() {
        StringBuilder s = new StringBuilder();
        for (int i = 0; i < Math.min(1000, x.look(5)); i++) {
            s.append(i == 0 ? "" : " ");
            s.append(x.looked(i, 0)).append('.').append(x.looked(i, 1));
        }
        return s.toString();
    }

    /** The whole text of a template, begun and run to its end. */
    String text(String name) {
        String e = begin(name);
        if (!e.isEmpty()) {
            return e;
        }
        for (int i = 0; i < 3 && run(12000).equals("0"); i++) {
            continue;
        }
        return bytes();
    }

    /** File 0 is this; the text of its template main. */
    String main(String source) {
        file(0, source);
        String loaded = load(0);
        return loaded.indexOf('@') >= 0 ? "FAULT " + loaded : text("main");
    }

    /** A new object's file 0, in which the place of its FAULT is marked by a ~ that is taken away. */
    static void fault(int number, String marked) {
        int place = marked.indexOf('~');
        House h = new House();
        h.file(0, marked.substring(0, place) + marked.substring(place + 1));
        due(marked, h.load(0), number + "@0:" + place);
    }

    /** A new object's file 0 without a FAULT. */
    static void fine(String source) {
        House h = new House();
        h.file(0, source);
        String got = h.load(0);
        due(source, got.indexOf('@') < 0 ? "no fault" : got, "no fault");
    }

    /** The text of main of a new object. */
    static void text(String source, String text) {
        new House().is(source, text, "");
    }

    /** The text of main; in its file places are marked by ~1, ~2 .., which are taken away; errors:
     * those due, each as number@mark. The text is over then, or ended by an ERROR 8. */
    House is(String marked, String text, String errors) {
        StringBuilder clean = new StringBuilder();
        int[] places = new int[10];
        for (int i = 0; i < marked.length(); i++) {
            if (marked.charAt(i) == '~') {
                i++;
                places[marked.charAt(i) - '0'] = clean.length();
            } else {
                clean.append(marked.charAt(i));
            }
        }
        StringBuilder want = new StringBuilder();
        for (String e : errors.split(" ")) {
            if (!e.isEmpty()) {
                want.append(want.length() == 0 ? "" : " ").append(e, 0, e.indexOf('@')).append("@0:");
                want.append(places[e.charAt(e.indexOf('@') + 1) - '0']);
            }
        }
        due(marked, main(clean.toString()), text);
        due("errors of " + marked, errors(), want);
        due("state of " + marked, x.look(7), errors.contains("8@") ? 3 : 2);
        return this;
    }

    /** How many INSTANCES the text made. */
    House made(int n) {
        due("instances", x.look(6), n);
        return this;
    }

    /** As main(), with the ERRORS and how many INSTANCES there were. */
    String all(String source) {
        String text = main(source);
        return text + "|" + errors() + "|" + x.look(6) + "|" + x.look(7);
    }
}
