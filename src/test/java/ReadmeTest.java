import java.io.IOException;
import java.nio.file.Files;
import java.nio.file.Path;

/** The calls of README.md, in its order: each stands there, and answers what it says there. */
public final class ReadmeTest {
    private static String page;
    private static int at = 0;

    public static void main(String[] args) throws IOException {
        page = Files.readString(Path.of("README.md"));
        GearHolds box = new GearHolds();
        gears(box);
        orders(box);
        stopped(box);
        Due.end();
    }

    /** The line stands on the page, behind those asked before it, and tells the answer, if it tells one. */
    private static void line(String call, int due, int got) {
        int found = page.indexOf("\n" + call + ";", at);
        Due.is(call + " stands in README.md", 1, found >= 0 ? 1 : 0);
        if (found >= 0) {
            at = found + 1;
            int end = page.indexOf('\n', at);
            String told = page.substring(at, end < 0 ? page.length() : end);
            Due.is(call + ": its answer stands there", 1,
                    !told.contains("answers") || told.matches(".*answers " + due + "\\b.*") ? 1 : 0);
        }
        Due.is(call, due, got);
    }

    private static void gears(GearHolds box) {
        line("box.gear(1, 3)", 0, box.gear(1, 3));
        line("box.gear(2, 5)", 0, box.gear(2, 5));
        line("box.simple(1, 2, 1)", 2, box.simple(1, 2, 1));
        line("box.drives(10, 1)", 1, box.drives(10, 1));
        line("box.drives(30, 1)", 2, box.drives(30, 1));
        line("box.state(4)", 1, box.state(4));
        line("box.fails(2, 1)", 0, box.fails(2, 1));
        line("box.state(0)", 0, box.state(0));
        line("box.back()", 4, box.back());
        line("box.state(0)", 2, box.state(0));
    }

    private static void orders(GearHolds box) {
        String start = "String orders = \"";
        int from = page.indexOf(start) + start.length();
        Due.text(box, page.substring(from, page.indexOf('"', from)));
        line("box.reads()", 3, box.reads());
        Due.is("GEAR 3 is in", 3, box.state(0));
        line("box.clear()", 17, box.clear());
    }

    private static void stopped(GearHolds box) {
        Due.is("g1;", -12, Due.reads(box, "g1;"));
        Due.is("r1;g7 3;", -1001, Due.reads(box, "r1;g7 3;"));
        Due.is("the kind", 3, box.why(0));
        Due.is("the number", 1, box.why(1));
        Due.is("`g1;` on the page", 1, page.contains("`g1;` answers -12") ? 1 : 0);
        Due.is("`r1;g7 3;` on the page", 1, page.contains("`r1;g7 3;` answers -1001") ? 1 : 0);
    }
}
