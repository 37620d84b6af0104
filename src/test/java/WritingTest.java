/** Promises 8, 9 and 10: the page written in both forms, and OUT. */
public final class WritingTest {
    private static final Check CHECK = new Check("WritingTest");

    public static void main(String[] arguments) {
        emptyPages();
        paragraphHeads();
        looks();
        colours();
        letters();
        longest();
        outStays();
        CHECK.end();
    }

    private static void written(String what, BracedPages pages, String braced, String tagged) {
        String before = Check.told(pages);
        CHECK.same(what + ": writeBraced", pages.writeBraced(), braced.length());
        CHECK.same(what + ": braced", Check.out(pages), braced);
        CHECK.same(what + ": writeTagged", pages.writeTagged(), tagged.length());
        CHECK.same(what + ": tagged", Check.out(pages), tagged);
        CHECK.same(what + ": the page stays", Check.told(pages), before);
    }

    private static void emptyPages() {
        BracedPages pages = new BracedPages();
        written("no paragraph", pages, "{}", "");
        pages.begin(0, 0);
        written("one", pages, "{\\pard\\par}", "<p></p>");
        pages.begin(0, 0);
        written("two", pages, "{\\pard\\par\\pard\\par}", "<p></p><p></p>");
    }

    private static void paragraphHeads() {
        BracedPages pages = new BracedPages();
        pages.begin(1, 0);
        pages.begin(2, 0);
        pages.begin(0, 1);
        pages.begin(1, 9);
        pages.begin(2, 5);
        written("heads", pages,
            "{\\pard\\qc\\par\\pard\\qr\\par\\pard\\li1\\par\\pard\\qc\\li9\\par\\pard\\qr\\li5\\par}",
            "<p C></p><p R></p><p 1></p><p C9></p><p R5></p>");
    }

    private static void looks() {
        String[] braced = {"", "\\b ", "\\i ", "\\b\\i ", "\\ul ", "\\b\\ul ", "\\i\\ul ", "\\b\\i\\ul "};
        String[] start = {"", "<b>", "<i>", "<b><i>", "<u>", "<b><u>", "<i><u>", "<b><i><u>"};
        String[] end = {"", "</b>", "</i>", "</i></b>", "</u>", "</u></b>", "</u></i>", "</u></i></b>"};
        for (int style = 0; style < 8; style++) {
            BracedPages pages = new BracedPages();
            pages.begin(0, 0);
            pages.add('a', style, 12, 0);
            pages.add('b', style, 12, 0);
            written("style " + style, pages, "{\\pard{" + braced[style] + "ab}\\par}",
                "<p>" + start[style] + "ab" + end[style] + "</p>");
        }
        BracedPages pages = new BracedPages();
        pages.begin(0, 0);
        pages.add(' ', 0, 1, 0);
        pages.add(' ', 0, 12, 0);
        pages.add('c', 0, 99, 0);
        pages.add('d', 7, 10, 5);
        written("sizes", pages,
            "{{\\colortbl;magenta;}\\pard{\\fs1  }{ }{\\fs99 c}{\\b\\i\\ul\\fs10\\cf1 d}\\par}",
            "<p><s 1> </s> <s 99>c</s><b><i><u><s 10><c 5>d</c></s></u></i></b></p>");
    }

    private static void colours() {
        BracedPages pages = new BracedPages();
        pages.begin(0, 0);
        for (int colour = 7; colour >= 0; colour--) {
            pages.add('0' + colour, 0, 12, colour);
        }
        written("all colours", pages,
            "{{\\colortbl;red;green;blue;cyan;magenta;yellow;white;}"
            + "\\pard{\\cf7 7}{\\cf6 6}{\\cf5 5}{\\cf4 4}{\\cf3 3}{\\cf2 2}{\\cf1 1}{0}\\par}",
            "<p><c 7>7</c><c 6>6</c><c 5>5</c><c 4>4</c><c 3>3</c><c 2>2</c><c 1>1</c>0</p>");
        pages = new BracedPages();
        pages.begin(0, 0);
        pages.add('a', 0, 12, 6);
        pages.begin(0, 0);
        pages.add('b', 0, 12, 2);
        pages.add('c', 0, 12, 0);
        pages.add('d', 0, 12, 6);
        written("two colours", pages,
            "{{\\colortbl;green;yellow;}\\pard{\\cf2 a}\\par\\pard{\\cf1 b}{c}{\\cf2 d}\\par}",
            "<p><c 6>a</c></p><p><c 2>b</c>c<c 6>d</c></p>");
        pages.wipe();
        pages.begin(0, 0);
        pages.add('c', 0, 12, 0);
        written("no colours any more", pages, "{\\pard{c}\\par}", "<p>c</p>");
    }

    /** In eight parts, because an object answers no more than 512 calls. */
    private static void letters() {
        for (int first = 32; first <= 255; first += 28) {
            letters(first, first + 27);
        }
    }

    private static void letters(int first, int last) {
        BracedPages pages = new BracedPages();
        pages.begin(0, 0);
        StringBuilder braced = new StringBuilder("{\\pard{");
        StringBuilder tagged = new StringBuilder("<p>");
        for (int code = first; code <= last; code++) {
            pages.add(code, 0, 12, 0);
            String self = Character.toString((char) code);
            braced.append(code > 126 ? "\\'" + Integer.toHexString(code) : "{}\\".contains(self) ? "\\" + self : self);
            tagged.append(code > 126 ? "&" + code + ";"
                : self.equals("<") ? "&lt;" : self.equals(">") ? "&gt;" : self.equals("&") ? "&amp;" : self);
        }
        written("letters from " + first, pages, braced + "}\\par}", tagged + "</p>");
    }

    private static void longest() {
        BracedPages pages = new BracedPages();
        for (int p = 0; p < 16; p++) {
            pages.begin(2, 9);
            for (int i = 0; i < 25; i++) {
                pages.add(255, 7, i % 2 == 0 ? 98 : 99, 7);
            }
        }
        CHECK.same("longest braced", pages.writeBraced(), 2 + "{\\colortbl;white;}".length()
            + 16 * "\\pard\\qr\\li9\\par".length() + 400 * "{\\b\\i\\ul\\fs99\\cf1 \\'ff}".length());
        CHECK.same("longest tagged", pages.writeTagged(), 16 * "<p R9></p>".length()
            + 400 * "<b><i><u><s 99><c 7>&255;</c></s></u></i></b>".length());
        CHECK.same("its last character", pages.out(18159), '>');
        CHECK.same("behind it", pages.out(18160), BracedPages.NONE);
    }

    private static void outStays() {
        BracedPages pages = Check.fed("<p>a</p>");
        pages.readTagged();
        pages.writeTagged();
        pages.begin(0, 0);
        pages.add('b', 0, 12, 0);
        pages.readBraced();
        pages.wipe();
        CHECK.same("OUT stays until the next writing", Check.out(pages), "<p>a</p>");
        pages.writeBraced();
        CHECK.same("and is new then", Check.out(pages), "{}");
    }
}
