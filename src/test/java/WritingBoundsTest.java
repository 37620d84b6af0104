/** Promises 8 to 10: each sentence on what is written that names a boundary case, in the document's order. */
public final class WritingBoundsTest {
    private static final Check CHECK = new Check("WritingBoundsTest");
    private static final String[] NAMES = {"black", "red", "green", "blue", "cyan", "magenta", "yellow", "white"};

    public static void main(String[] arguments) {
        emptyPage();
        noColours();
        oneColour();
        manyColours();
        colourOrder();
        paragraphHeads();
        bracedRuns();
        blanks();
        bracedLetters();
        taggedHeads();
        taggedRuns();
        taggedLetters();
        nothingBetween();
        longestTexts();
        growingTexts();
        writtenAnew();
        CHECK.end();
    }

    private static BracedPages withLetter(int code, int style, int size, int colour) {
        BracedPages pages = new BracedPages();
        pages.begin(0, 0);
        pages.add(code, style, size, colour);
        return pages;
    }

    private static BracedPages sixteenParagraphs() {
        BracedPages pages = new BracedPages();
        for (int p = 0; p < 16; p++) {
            pages.begin(0, 0);
        }
        return pages;
    }

    private static void braced(String what, BracedPages pages, String due) {
        String before = Check.told(pages);
        CHECK.same(what + ": writeBraced", pages.writeBraced(), due.length());
        CHECK.same(what + ": braced", Check.out(pages), due);
        CHECK.same(what + ": the page stays", Check.told(pages), before);
    }

    private static void tagged(String what, BracedPages pages, String due) {
        String before = Check.told(pages);
        CHECK.same(what + ": writeTagged", pages.writeTagged(), due.length());
        CHECK.same(what + ": tagged", Check.out(pages), due);
        CHECK.same(what + ": the page stays", Check.told(pages), before);
    }

    private static void emptyPage() {
        CHECK.sentence("Writes the page BRACED into OUT. Answers how many characters it has.");
        braced("no paragraphs", new BracedPages(), "{}");
        CHECK.sentence("Writes the page TAGGED into OUT. Answers how many characters it has.");
        tagged("no paragraphs", new BracedPages(), "");
    }

    private static void noColours() {
        CHECK.sentence("if the page has colours other than 0, a group { \\colortbl ;");
        BracedPages pages = new BracedPages();
        pages.begin(0, 0);
        braced("no letters", pages, "{\\pard\\par}");
        pages.add('a', 0, 12, 0);
        braced("colour 0 alone", pages, "{\\pard{a}\\par}");
        pages.add('b', 0, 12, 1);
        braced("another one", pages, "{{\\colortbl;red;}\\pard{a}{\\cf1 b}\\par}");
        for (int colour = 1; colour <= 7; colour++) {
            pages = withLetter('a', 0, 12, colour);
            pages.writeBraced();
            pages.wipe();
            pages.begin(0, 0);
            pages.add('a', 0, 12, 0);
            braced("no colour " + colour + " any more", pages, "{\\pard{a}\\par}");
        }
    }

    private static void oneColour() {
        CHECK.sentence("for each of them, by rising numbers, its name and ;");
        for (int colour = 1; colour <= 7; colour++) {
            braced("colour " + colour, withLetter('a', 0, 12, colour), "{{\\colortbl;" + NAMES[colour] + ";}\\pard{\\cf1 a}\\par}");
        }
    }

    /** All sets of colours, each added from the highest number down and twice. */
    private static void manyColours() {
        CHECK.sentence("for each of them, by rising numbers, its name and ;");
        for (int set = 1; set < 256; set++) {
            BracedPages pages = new BracedPages();
            StringBuilder table = new StringBuilder();
            StringBuilder runs = new StringBuilder();
            int entry = Integer.bitCount(set >> 1);
            pages.begin(0, 0);
            for (int colour = 7; colour >= 0; colour--) {
                if ((set >> colour & 1) == 1) {
                    pages.add('a', 0, 12, colour);
                    pages.add('b', 0, 12, colour);
                    runs.append(colour == 0 ? "{ab}" : "{\\cf" + entry + " ab}");
                    table.insert(0, colour == 0 ? "" : NAMES[colour] + ";");
                    entry--;
                }
            }
            String due = table.length() == 0 ? "" : "{\\colortbl;" + table + "}";
            braced("colours " + set, pages, "{" + due + "\\pard" + runs + "\\par}");
        }
    }

    private static void colourOrder() {
        CHECK.sentence("\\cfN (the entry, if the colour is not 0)");
        BracedPages pages = new BracedPages();
        pages.begin(0, 0);
        pages.add('a', 0, 12, 7);
        pages.begin(0, 0);
        pages.add('b', 0, 12, 2);
        pages.begin(0, 0);
        pages.add('c', 0, 12, 0);
        pages.add('d', 0, 12, 7);
        braced("colours of several paragraphs", pages,
            "{{\\colortbl;green;white;}\\pard{\\cf2 a}\\par\\pard{\\cf1 b}\\par\\pard{c}{\\cf2 d}\\par}");
    }

    private static void paragraphHeads() {
        CHECK.sentence("for each paragraph: \\pard , then \\qc or \\qr if its alignment is 1 or 2, \\liN if its indent N is not 0");
        String[] alignments = {"", "\\qc", "\\qr"};
        for (int alignment = 0; alignment <= 2; alignment++) {
            for (int indent = 0; indent <= 9; indent++) {
                BracedPages pages = new BracedPages();
                pages.begin(alignment, indent);
                braced("head", pages, "{\\pard" + alignments[alignment] + (indent == 0 ? "" : "\\li" + indent) + "\\par}");
            }
        }
        CHECK.sentence("A PAGE is a row of at most 16 PARAGRAPHS");
        braced("sixteen", sixteenParagraphs(), "{" + Check.repeated("\\pard\\par", 16) + "}");
        tagged("sixteen", sixteenParagraphs(), Check.repeated("<p></p>", 16));
    }

    private static void bracedRuns() {
        CHECK.sentence("then \\b \\i , a backslash and ul (those that apply), \\fsN (if the size is not 12) \\cfN (the entry, if the colour is not 0), one blank if there was one of these");
        String[] styles = {"", "\\b", "\\i", "\\b\\i", "\\ul", "\\b\\ul", "\\i\\ul", "\\b\\i\\ul"};
        for (int style = 0; style <= 7; style++) {
            for (int size = 1; size <= 99; size++) {
                for (int colour = 0; colour <= 7; colour += 7) {
                    String words = styles[style] + (size == 12 ? "" : "\\fs" + size) + (colour == 0 ? "" : "\\cf1");
                    String table = colour == 0 ? "" : "{\\colortbl;white;}";
                    braced("look", withLetter('a', style, size, colour),
                        "{" + table + "\\pard{" + words + (words.isEmpty() ? "" : " ") + "a}\\par}");
                }
            }
        }
    }

    private static void blanks() {
        CHECK.sentence("one blank if there was one of these, the letters");
        braced("a blank, plain", withLetter(' ', 0, 12, 0), "{\\pard{ }\\par}");
        braced("a blank, bold", withLetter(' ', 1, 12, 0), "{\\pard{\\b  }\\par}");
        braced("a digit behind a number", withLetter('0', 0, 1, 0), "{\\pard{\\fs1 0}\\par}");
        BracedPages pages = withLetter(' ', 2, 12, 0);
        pages.writeBraced();
        pages.take();
        pages.wipe();
        CHECK.same("read again", pages.readBraced(), 1);
        CHECK.same("its page", Check.told(pages), "0 0 (2 12 0| )");
    }

    private static void bracedLetters() {
        CHECK.sentence("(escapes for { } \\ with a backslash, for codes from 127 on with two digits)");
        for (int code = 32; code <= 255; code++) {
            String due = String.valueOf((char) code);
            if (code == 123 || code == 125 || code == 92) {
                due = "\\" + due;
            } else if (code >= 127) {
                due = String.format("\\'%02x", code);
            }
            braced("letter " + code, withLetter(code, 0, 12, 0), "{\\pard{" + due + "}\\par}");
        }
    }

    private static void taggedHeads() {
        CHECK.sentence("A paragraph: <p , then, if its alignment or its indent is not 0, a blank, C or R for alignment 1 or 2, and the indent if it is not 0; > ; its runs; </p> .");
        String[] alignments = {"", "C", "R"};
        for (int alignment = 0; alignment <= 2; alignment++) {
            for (int indent = 0; indent <= 9; indent++) {
                BracedPages pages = new BracedPages();
                pages.begin(alignment, indent);
                String head = alignments[alignment] + (indent == 0 ? "" : String.valueOf(indent));
                tagged("head", pages, (head.isEmpty() ? "<p>" : "<p " + head + ">") + "</p>");
            }
        }
    }

    private static void taggedRuns() {
        CHECK.sentence("A run: of the tags <b> <i> <u> <s N> <c N> , in this order, those that apply (size N not 12, colour N not 0)");
        String[] starts = {"", "<b>", "<i>", "<b><i>", "<u>", "<b><u>", "<i><u>", "<b><i><u>"};
        String[] ends = {"", "</b>", "</i>", "</i></b>", "</u>", "</u></b>", "</u></i>", "</u></i></b>"};
        for (int style = 0; style <= 7; style++) {
            for (int size = 1; size <= 99; size++) {
                for (int colour = 0; colour <= 7; colour++) {
                    String start = starts[style] + (size == 12 ? "" : "<s " + size + ">") + (colour == 0 ? "" : "<c " + colour + ">");
                    String end = (colour == 0 ? "" : "</c>") + (size == 12 ? "" : "</s>") + ends[style];
                    tagged("look", withLetter('a', style, size, colour), "<p>" + start + "a" + end + "</p>");
                }
            }
        }
    }

    private static void taggedLetters() {
        CHECK.sentence("Letters < > & are written &lt; &gt; &amp; , codes N from 127 on &N; , others as they are.");
        for (int code = 32; code <= 255; code++) {
            String due = code >= 127 ? "&" + code + ";" : String.valueOf((char) code);
            if (code == 60 || code == 62 || code == 38) {
                due = code == 60 ? "&lt;" : code == 62 ? "&gt;" : "&amp;";
            }
            tagged("letter " + code, withLetter(code, 0, 12, 0), "<p>" + due + "</p>");
        }
    }

    private static void nothingBetween() {
        CHECK.sentence("Nothing stands between these.");
        BracedPages pages = new BracedPages();
        pages.begin(1, 2);
        pages.add('a', 0, 12, 0);
        pages.add('b', 0, 12, 0);
        pages.add('c', 5, 9, 6);
        pages.add('{', 5, 9, 6);
        pages.begin(0, 0);
        pages.begin(2, 0);
        pages.add(255, 2, 12, 0);
        braced("several", pages, "{{\\colortbl;yellow;}\\pard\\qc\\li2{ab}{\\b\\ul\\fs9\\cf1 c\\{}\\par\\pard\\par\\pard\\qr{\\i \\'ff}\\par}");
        tagged("several", pages, "<p C2>ab<b><u><s 9><c 6>c{</c></s></u></b></p><p></p><p R><i>&255;</i></p>");
    }

    private static void longestTexts() {
        CHECK.sentence("OUT is one of any length.");
        BracedPages pages = new BracedPages();
        for (int p = 0; p < 16; p++) {
            pages.begin(2, 9);
            for (int i = 0; i < 25; i++) {
                pages.add(255, 7, 98 + i % 2, 1 + i % 7);
            }
        }
        int table = "{\\colortbl;red;green;blue;cyan;magenta;yellow;white;}".length();
        CHECK.same("the longest braced one", pages.writeBraced(), 2 + table + 16 * 16 + 400 * 23);
        CHECK.same("its last character", pages.out(2 + table + 16 * 16 + 400 * 23 - 1), '}');
        CHECK.same("behind it", pages.out(2 + table + 16 * 16 + 400 * 23), BracedPages.NONE);
        CHECK.isThrown("IN can't become it", UnsupportedOperationException.class, pages::take);
        CHECK.same("the longest tagged one", pages.writeTagged(), 16 * 10 + 400 * 45);
        CHECK.same("its last character", pages.out(18159), '>');
        CHECK.same("behind it", pages.out(18160), BracedPages.NONE);
        CHECK.isThrown("IN can't become it", UnsupportedOperationException.class, pages::take);
        CHECK.same("IN stays empty", pages.readTagged(), 0);
    }

    private static void growingTexts() {
        CHECK.sentence("OUT is one of any length.");
        for (int letters = 0; letters <= 140; letters++) {
            BracedPages pages = Check.fed("<p>" + Check.repeated("a", letters) + "</p>");
            pages.readTagged();
            CHECK.same("tagged", pages.writeTagged(), letters + 7);
            CHECK.same("its last character", pages.out(letters + 6), '>');
            CHECK.same("behind it", pages.out(letters + 7), BracedPages.NONE);
            CHECK.same("its first character", pages.out(0), '<');
            CHECK.same("all of it", Check.out(pages), "<p>" + Check.repeated("a", letters) + "</p>");
        }
    }

    private static void writtenAnew() {
        CHECK.sentence("Writes the page TAGGED into OUT. Answers how many characters it has.");
        BracedPages pages = withLetter('a', 7, 99, 7);
        pages.writeTagged();
        pages.wipe();
        pages.writeTagged();
        CHECK.same("nothing is left of a longer one", Check.out(pages), "");
        pages.begin(0, 0);
        pages.writeBraced();
        pages.add('b', 0, 12, 0);
        CHECK.same("OUT stays until the next writing", Check.out(pages), "{\\pard\\par}");
        pages.writeTagged();
        CHECK.same("and is new then", Check.out(pages), "<p>b</p>");
        CHECK.same("writing leaves IN", pages.readTagged(), 0);
    }
}
