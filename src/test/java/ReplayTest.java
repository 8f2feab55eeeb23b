import java.io.IOException;
import java.nio.charset.StandardCharsets;
import java.nio.file.Files;
import java.nio.file.Paths;

/** Replays random runs (tools/gen.py) with the answers of the model in tools/model.py. */
public final class ReplayTest {
    private static House h = new House();
    private static String run = "";

    public static void main(String[] args) throws IOException {
        String file = args.length > 0 ? args[0] : "src/test/runs.txt";
        for (String line : Files.readAllLines(Paths.get(file), StandardCharsets.US_ASCII)) {
            step(line.split(" ", -1));
        }
        House.over();
    }

    private static String text(String hex) {
        StringBuilder s = new StringBuilder();
        for (int i = 0; i + 1 < hex.length(); i += 2) {
            s.append((char) Integer.parseInt(hex.substring(i, i + 2), 16));
        }
        return s.toString();
    }

    private static int n(String s) {
        return Integer.parseInt(s);
    }

    private static void step(String[] p) {
        switch (p[0]) {
            case "N": h = new House(); run = "run " + p[1] + " "; break;
            case "T": h.tape(text(p[1])); break;
            case "F": due("file", h.x.file(n(p[1])), true); break;
            case "L": due("load", h.load(n(p[1])).replace('@', ',').replace(':', ','), p[2]); break;
            case "vb": h.x.truth(p[1].equals("1")); break;
            case "vn": h.x.number(Long.parseLong(p[1])); break;
            case "vw": h.x.word(); break;
            case "vl": h.x.list(); break;
            case "vm": h.x.map(); break;
            case "vB": h.x.bean(); break;
            case "add": due("add", h.x.add(n(p[1]), n(p[2])), true); break;
            case "entry": due("entry", h.x.entry(n(p[1]), n(p[2])), true); break;
            case "prop": due("property", h.x.property(n(p[1]), n(p[2]), n(p[3])), true); break;
            case "attr": due("attribute", h.x.attribute(n(p[1])) > 0, true); break;
            case "width": h.x.width(n(p[1])); break;
            case "B": due("begin", h.begin(""), p[1]); break;
            case "R": due("run", h.run(n(p[1])), p[2]); break;
            case "S": due("look", looks(), p[1]); break;
            default: told(p); break;
        }
    }

    private static void due(String what, Object got, Object want) {
        House.due(run + what, got, want);
    }

    private static String looks() {
        return h.x.look(3) + "," + h.x.look(4) + "," + h.x.look(5) + "," + h.x.look(6) + "," + h.x.look(7);
    }

    private static void told(String[] p) {
        due("text", h.bytes(), text(p[1]));
        due("errors", list(h.errors()), p[2]);
        due("looks", list(h.looks()), p[3]);
    }

    /** As the runs tell it: each with a ; behind it, its numbers with commas. */
    private static String list(String told) {
        String s = told.replace('@', ',').replace(':', ',').replace('.', ',').replace(' ', ';');
        return s.isEmpty() ? "" : s + ";";
    }
}
