import java.util.NoSuchElementException;

/** Promises 1 to 4, 7 and 10 to 17: each sentence on a call or a term that names a boundary case, in the document's order. */
public final class CallBoundsTest {
    private static final Check CHECK = new Check("CallBoundsTest");
    private static final int NONE = BracedPages.NONE, LEAST = Integer.MIN_VALUE, MOST = Integer.MAX_VALUE;

    public static void main(String[] arguments) {
        lastCall();
        sixteenParagraphs();
        alignmentsAndIndents();
        noRuns();
        codesAndLooks();
        runsOfOneLook();
        newObject();
        feedsUpToZero();
        feedsNothing();
        feedsWrongBytes();
        feedsFullIn();
        clears();
        takes();
        takesTooMuch();
        tellsWhere();
        answersCharacters();
        begins();
        beginsTooMany();
        addsRuns();
        addsToNoParagraph();
        addsNoLetter();
        addsTooMany();
        wipes();
        countsParagraphs();
        tellsParagraphs();
        tellsRuns();
        tellsLetters();
        CHECK.end();
    }

    /** An object with something in IN, in OUT and on the page, and with a fault behind it. */
    private static BracedPages used() {
        BracedPages pages = Check.fed("{abc");
        pages.readBraced();
        pages.clear();
        Check.feedAll(pages, "{\\qc x\\b y\\par}");
        pages.begin(2, 9);
        pages.add('k', 1, 20, 3);
        pages.add('l', 0, 12, 0);
        pages.writeBraced();
        pages.begin(1, 0);
        return pages;
    }

    private static BracedPages withParagraphs(int count) {
        BracedPages pages = Check.fed("<p>a</p>");
        for (int p = 0; p < count; p++) {
            pages.begin(p % 3, p % 10);
        }
        return pages;
    }

    /** An object whose IN has so many characters: two letters, the rest all 10. */
    private static BracedPages withIn(int count) {
        return Check.fed("{" + Check.repeated("\n", count - 4) + "ab}");
    }

    /** A page of so many letters, 3 at least and 398 at most, in one run and one paragraph. */
    private static BracedPages withLetters(int count) {
        BracedPages pages = Check.fed("{" + Check.repeated("a", count - 1) + "z}");
        pages.readBraced();
        return pages;
    }

    private static void lastCall() {
        CHECK.sentence("An object is used for at most 512 calls after it has been made");
        BracedPages pages = new BracedPages();
        pages.begin(0, 0);
        for (int call = 2; call <= 401; call++) {
            pages.add('a', call % 2, 12, 0);
        }
        for (int call = 402; call <= 511; call++) {
            CHECK.same("call " + call, call % 2 == 0 ? pages.writeBraced() : pages.writeTagged(), call % 2 == 0 ? 1811 : 1807);
        }
        CHECK.same("the 512th call", pages.run(0, 399, 0), 1);
        BracedPages fed = new BracedPages();
        for (int call = 1; call <= 511; call++) {
            if (call <= 400) {
                CHECK.same("call " + call, fed.feed('a'), 1);
            } else {
                CHECK.isThrown("call " + call, UnsupportedOperationException.class, () -> fed.feed('a'));
            }
        }
        CHECK.same("the 512th call", fed.readBraced(), BracedPages.OPEN);
    }

    private static void sixteenParagraphs() {
        CHECK.sentence("A PAGE is a row of at most 16 PARAGRAPHS");
        CHECK.same("made", withParagraphs(16).paragraphs(), 16);
        BracedPages braced = Check.fed("{" + Check.repeated("\\par", 16) + "}");
        CHECK.same("read braced", braced.readBraced(), 16);
        CHECK.isThrown("one more", UnsupportedOperationException.class, () -> braced.begin(0, 0));
        BracedPages tagged = Check.fed(Check.repeated("<p></p>", 15));
        CHECK.same("read tagged", tagged.readTagged(), 15);
        CHECK.same("the sixteenth", tagged.begin(0, 0), 16);
        CHECK.isThrown("one more", UnsupportedOperationException.class, () -> tagged.begin(0, 0));
    }

    private static void alignmentsAndIndents() {
        CHECK.sentence("each with an ALIGNMENT (0 left, 1 middle, 2 right), an INDENT 0 .. 9");
        for (int alignment = 0; alignment <= 2; alignment++) {
            for (int indent = 0; indent <= 9; indent++) {
                BracedPages pages = new BracedPages();
                CHECK.same("begin", pages.begin(alignment, indent), 1);
                CHECK.same("alignment", pages.paragraph(0, 0), alignment);
                CHECK.same("indent", pages.paragraph(0, 1), indent);
            }
        }
    }

    private static void noRuns() {
        CHECK.sentence("and RUNS, perhaps none: each one or more LETTERS");
        BracedPages pages = new BracedPages();
        pages.begin(0, 0);
        CHECK.same("runs", pages.paragraph(0, 2), 0);
        CHECK.same("letters", pages.paragraph(0, 3), 0);
        CHECK.isThrown("the first run", NoSuchElementException.class, () -> pages.run(0, 0, 3));
        CHECK.same("a letter makes one", pages.add('a', 0, 12, 0), 1);
        CHECK.same("its letters", pages.run(0, 0, 3), 1);
    }

    private static void codesAndLooks() {
        CHECK.sentence("LETTERS (codes 32 .. 255) with a LOOK");
        for (int code = 32; code <= 255; code++) {
            BracedPages pages = new BracedPages();
            pages.begin(0, 0);
            CHECK.same("add " + code, pages.add(code, 0, 12, 0), 1);
            CHECK.same("its code", pages.letter(0, 0), code);
        }
        CHECK.sentence("A look is: bold, italic, underlined (yes or no), a SIZE 1 .. 99 and a COLOUR 0 .. 7.");
        for (int style = 0; style <= 7; style++) {
            for (int size = 1; size <= 99; size++) {
                BracedPages pages = new BracedPages();
                pages.begin(0, 0);
                for (int colour = 0; colour <= 7; colour++) {
                    CHECK.same("add", pages.add('a', style, size, colour), colour + 1);
                    CHECK.same("style", pages.run(0, colour, 0), style);
                    CHECK.same("size", pages.run(0, colour, 1), size);
                    CHECK.same("colour", pages.run(0, colour, 2), colour);
                }
            }
        }
    }

    private static void runsOfOneLook() {
        CHECK.sentence("Letters side by side in a paragraph are in one run just when their looks are the same.");
        int[][] looks = {{0, 12, 0}, {1, 12, 0}, {2, 12, 0}, {4, 12, 0}, {0, 13, 0}, {0, 12, 1}, {7, 99, 7}};
        for (int[] one : looks) {
            for (int[] other : looks) {
                BracedPages pages = new BracedPages();
                pages.begin(0, 0);
                pages.add('a', one[0], one[1], one[2]);
                CHECK.same("two looks", pages.add('b', other[0], other[1], other[2]), one == other ? 1 : 2);
                CHECK.same("letters of the first run", pages.run(0, 0, 3), one == other ? 2 : 1);
                CHECK.same("and the first again", pages.add('c', one[0], one[1], one[2]), one == other ? 1 : 3);
                pages.begin(0, 0);
                CHECK.same("a paragraph between", pages.add('d', one[0], one[1], one[2]), 1);
                CHECK.same("runs before it", pages.paragraph(0, 2), one == other ? 1 : 3);
            }
        }
    }

    private static void newObject() {
        CHECK.sentence("A page without paragraphs; IN and OUT have no characters.");
        CHECK.same("paragraphs", new BracedPages().paragraphs(), 0);
        CHECK.same("out(0)", new BracedPages().out(0), NONE);
        CHECK.same("IN, tagged", new BracedPages().readTagged(), 0);
        CHECK.same("IN, braced", new BracedPages().readBraced(), BracedPages.OPEN);
        CHECK.same("take", new BracedPages().take(), 0);
        CHECK.same("at", new BracedPages().at(), NONE);
        CHECK.same("the page written", new BracedPages().writeTagged(), 0);
        CHECK.isThrown("a paragraph", NoSuchElementException.class, () -> new BracedPages().paragraph(0, 0));
        BracedPages pages = new BracedPages();
        for (int i = 0; i < 50; i++) {
            CHECK.same("all of IN is free", pages.feed(Check.packed("<p></p>a")), 8);
        }
        CHECK.isThrown("and no more", UnsupportedOperationException.class, () -> pages.feed('a'));
    }

    private static void feedsUpToZero() {
        CHECK.sentence("Adds to IN the characters that the bytes of text are, from the lowest one on, up to the first byte 0 (or all eight; what is behind that 0 is not looked at");
        String text = "<p>0aB~</p><p> z;</p>";
        for (int length = 0; length <= 8; length++) {
            BracedPages pages = new BracedPages();
            CHECK.same("feed " + length, pages.feed(Check.packed(text.substring(0, length))), length);
            Check.feedAll(pages, text.substring(length));
            CHECK.same("read " + length, pages.readTagged(), 2);
            CHECK.same("page " + length, Check.told(pages), "0 0 (0 12 0|0aB~) / 0 0 (0 12 0| z;)");
        }
        long[] behind = {0x01L, 0xffL, 0x7fL, 0x0aL, 0x61L, 0x80L};
        for (int zero = 0; zero < 7; zero++) {
            for (long wrong : behind) {
                for (int place = zero + 1; place < 8; place++) {
                    BracedPages pages = Check.fed("{");
                    long bytes = Check.packed(Check.repeated("b", zero)) | wrong << 8 * place;
                    CHECK.same("feed " + Long.toHexString(bytes), pages.feed(bytes), zero);
                    pages.feed('}');
                    pages.readBraced();
                    CHECK.same("letters of " + Long.toHexString(bytes), zero == 0 ? 0 : pages.paragraph(0, 3), zero);
                }
            }
        }
    }

    private static void feedsNothing() {
        CHECK.sentence("Answers how many.");
        BracedPages pages = Check.fed("{a");
        CHECK.same("none", pages.feed(0), 0);
        CHECK.same("none, and what is behind", pages.feed(-256L), 0);
        CHECK.same("none, and the highest bit", pages.feed(Long.MIN_VALUE), 0);
        CHECK.same("one", pages.feed('}'), 1);
        CHECK.same("nothing came between", pages.readBraced(), 1);
        CHECK.same("eight", pages.feed(Check.packed("12345678")), 8);
        CHECK.same("eight of 10", pages.feed(0x0a0a0a0a0a0a0a0aL), 8);
        CHECK.same("eight of 126", pages.feed(0x7e7e7e7e7e7e7e7eL), 8);
    }

    private static void feedsWrongBytes() {
        CHECK.sentence("IN is a row of at most 400 CHARACTERS, 32 .. 126 or 10");
        for (int code = 1; code <= 255; code++) {
            for (int place = 0; place < 8; place++) {
                BracedPages pages = new BracedPages();
                long bytes = Check.packed(Check.repeated("b", place)) | (long) code << 8 * place;
                if (code == 10 || code >= 32 && code <= 126) {
                    CHECK.same("feed " + code + " as byte " + place, pages.feed(bytes), place + 1);
                } else {
                    CHECK.isThrown("feed " + code + " as byte " + place, IllegalArgumentException.class, () -> pages.feed(bytes));
                }
            }
        }
        CHECK.sentence("when it throws nothing is added");
        for (int place = 0; place < 8; place++) {
            long bytes = Check.packed(Check.repeated("b", place)) | 0x7fL << 8 * place;
            CHECK.isRefused("feed 127 as byte " + place, IllegalArgumentException.class, CallBoundsTest::used, pages -> pages.feed(bytes));
            BracedPages pages = Check.fed("{a");
            CHECK.isThrown("feed", IllegalArgumentException.class, () -> pages.feed(bytes));
            pages.feed('}');
            pages.readBraced();
            CHECK.same("nothing of it is there", Check.told(pages), "0 0 (0 12 0|a)");
        }
        CHECK.isRefused("feed -1", IllegalArgumentException.class, CallBoundsTest::used, pages -> pages.feed(-1));
        CHECK.isRefused("feed the largest", IllegalArgumentException.class, CallBoundsTest::used, pages -> pages.feed(Long.MAX_VALUE));
    }

    private static void feedsFullIn() {
        CHECK.sentence("UnsupportedOperationException when IN would have more than 400.");
        for (int before = 392; before <= 400; before++) {
            for (int more = 0; more <= 8; more++) {
                String what = "feed " + more + " to " + before;
                long bytes = Check.packed(Check.repeated("\n", more));
                int had = before;
                if (before + more <= 400) {
                    BracedPages pages = withIn(had);
                    CHECK.same(what, pages.feed(bytes), more);
                    isRoomFor(what, pages, 400 - before - more);
                } else {
                    CHECK.isRefused(what, UnsupportedOperationException.class, () -> withIn(had), pages -> pages.feed(bytes));
                    BracedPages pages = withIn(had);
                    CHECK.isThrown(what, UnsupportedOperationException.class, () -> pages.feed(bytes));
                    isRoomFor(what, pages, 400 - before);
                }
            }
        }
        CHECK.sentence("IllegalArgumentException when one of them is not as it must be");
        CHECK.isRefused("a wrong one to 400", IllegalArgumentException.class, () -> withIn(400), pages -> pages.feed(127));
        CHECK.isRefused("a wrong one as the 401st", IllegalArgumentException.class, () -> withIn(399), pages -> pages.feed(0x7f61L));
        CHECK.same("nothing, and a wrong one behind it, to 400", withIn(400).feed(0x7f00L), 0);
    }

    private static void isRoomFor(String what, BracedPages pages, int room) {
        for (int i = 0; i < room; i++) {
            CHECK.same(what + ": one more", pages.feed('\n'), 1);
        }
        CHECK.isThrown(what + ": full", UnsupportedOperationException.class, () -> pages.feed('\n'));
        CHECK.same(what + ": read", pages.readBraced(), 1);
    }

    private static void clears() {
        CHECK.sentence("IN has no characters.");
        BracedPages pages = new BracedPages();
        pages.clear();
        CHECK.same("an empty one", pages.readTagged(), 0);
        BracedPages full = withIn(400);
        full.clear();
        CHECK.same("a full one", full.readTagged(), 0);
        Check.feedAll(full, "{" + Check.repeated("\n", 398) + "}");
        CHECK.same("400 again", full.readBraced(), 0);
        CHECK.isThrown("and not one more", UnsupportedOperationException.class, () -> full.feed('a'));
        BracedPages used = used();
        String before = Check.seen(used);
        used.clear();
        CHECK.same("all but IN stays", Check.seen(used), before);
    }

    private static void takes() {
        CHECK.sentence("IN becomes OUT (which stays). Answers how many characters it has.");
        BracedPages pages = withIn(400);
        CHECK.same("OUT is empty", pages.take(), 0);
        CHECK.same("so IN is", pages.readTagged(), 0);
        CHECK.same("and has room", pages.feed(Check.packed("aaaaaaaa")), 8);
        CHECK.same("the shortest braced one", pages.writeBraced(), 2);
        CHECK.same("take", pages.take(), 2);
        CHECK.same("OUT stays", Check.out(pages), "{}");
        CHECK.same("IN is it", pages.readBraced(), 0);
        pages.feed('x');
        CHECK.same("IN grows", pages.readBraced(), BracedPages.BEHIND);
        CHECK.same("OUT does not", Check.out(pages), "{}");
        pages.take();
        pages.begin(0, 0);
        pages.writeTagged();
        CHECK.same("a later writing leaves IN", pages.readBraced(), 0);
        BracedPages used = used();
        String before = Check.seen(used);
        used.take();
        CHECK.same("all but IN stays", Check.seen(used), before);
    }

    private static void takesTooMuch() {
        CHECK.sentence("UnsupportedOperationException when they are more than 400.");
        for (int letters = 391; letters <= 395; letters++) {
            BracedPages pages = withLetters(letters);
            CHECK.same("write", pages.writeTagged(), letters + 7);
            if (letters + 7 <= 400) {
                CHECK.same("take", pages.take(), letters + 7);
                pages.wipe();
                CHECK.same("read", pages.readTagged(), 1);
                CHECK.same("letters", pages.paragraph(0, 3), letters);
                CHECK.same("the last", pages.letter(0, letters - 1), 'z');
                isFull(pages, letters + 7);
            } else {
                CHECK.isThrown("take", UnsupportedOperationException.class, pages::take);
                CHECK.same("OUT stays", pages.out(letters + 6), '>');
                CHECK.same("OUT is no longer", pages.out(letters + 7), NONE);
                CHECK.same("the page stays", pages.paragraph(0, 3), letters);
                CHECK.same("AT stays", pages.at(), NONE);
                CHECK.same("IN stays", pages.readBraced(), 1);
                CHECK.same("with its letters", pages.letter(0, letters - 1), 'z');
                isFull(pages, letters + 2);
            }
        }
    }

    private static void isFull(BracedPages pages, int characters) {
        for (int i = characters; i < 400; i++) {
            CHECK.same("one more", pages.feed('a'), 1);
        }
        CHECK.isThrown("full", UnsupportedOperationException.class, () -> pages.feed('a'));
    }

    private static void tellsWhere() {
        CHECK.sentence("AT: where the fault of the latest reading was met; NONE when it had none, or there was no reading.");
        BracedPages pages = new BracedPages();
        CHECK.same("no reading", pages.at(), NONE);
        pages.feed(Check.packed("{ab"));
        pages.begin(0, 0);
        pages.writeBraced();
        CHECK.same("still none", pages.at(), NONE);
        CHECK.same("a fault", pages.readBraced(), BracedPages.OPEN);
        CHECK.same("its place", pages.at(), 3);
        CHECK.same("its place again", pages.at(), 3);
        pages.feed('}');
        pages.wipe();
        pages.begin(0, 0);
        pages.writeTagged();
        CHECK.isThrown("a refused call", IllegalArgumentException.class, () -> pages.begin(3, 0));
        CHECK.same("calls that read nothing leave it", pages.at(), 3);
        CHECK.same("a fault at the front", pages.readTagged(), BracedPages.TAG);
        CHECK.same("its place", pages.at(), 0);
        CHECK.same("no fault", pages.readBraced(), 1);
        CHECK.same("no place", pages.at(), NONE);
        pages.clear();
        CHECK.same("a fault in nothing", pages.readBraced(), BracedPages.OPEN);
        CHECK.same("its place", pages.at(), 0);
        CHECK.same("nothing, tagged, has none", pages.readTagged(), 0);
        CHECK.same("so no place", pages.at(), NONE);
        Check.feedAll(pages, "{" + Check.repeated("a", 399));
        pages.readBraced();
        CHECK.same("the last place there is", pages.at(), 400);
    }

    private static void answersCharacters() {
        CHECK.sentence("Character i of OUT; NONE when there is none.");
        BracedPages pages = new BracedPages();
        int[] outside = {LEAST, LEAST + 1, -2, -1, 2, 3, 63, 64, 65, 400, 1 << 16, MOST - 1, MOST};
        for (int i : outside) {
            CHECK.same("out(" + i + ") before a writing", pages.out(i), NONE);
        }
        CHECK.same("out(0) before a writing", pages.out(0), NONE);
        pages.writeBraced();
        for (int i : outside) {
            CHECK.same("out(" + i + ") of {}", pages.out(i), NONE);
        }
        CHECK.same("out(0) of {}", pages.out(0), '{');
        CHECK.same("out(1) of {}", pages.out(1), '}');
        pages.writeTagged();
        CHECK.same("out(0) of nothing", pages.out(0), NONE);
        CHECK.same("out(1) of nothing", pages.out(1), NONE);
        CHECK.sentence("OUT is one of any length.");
        BracedPages large = withLetters(398);
        CHECK.same("more than IN may have", large.writeBraced(), 411);
        CHECK.same("its last", large.out(410), '}');
        CHECK.same("behind it", large.out(411), NONE);
        large.wipe();
        large.writeBraced();
        CHECK.same("a shorter one behind a longer one", large.out(2), NONE);
    }

    private static void begins() {
        CHECK.sentence("A new paragraph without letters, the last one. Answers how many there are.");
        BracedPages pages = Check.fed("<p C3>ab</p>");
        pages.readTagged();
        CHECK.same("begin", pages.begin(2, 9), 2);
        CHECK.same("told", Check.told(pages), "1 3 (0 12 0|ab) / 2 9");
        CHECK.sentence("IllegalArgumentException when alignment is not 0 .. 2 or indent not 0 .. 9");
        int[] alignments = {LEAST, -1, 3, 4, 256, MOST};
        int[] indents = {LEAST, -1, 10, 11, 256, MOST};
        for (int alignment : alignments) {
            CHECK.isRefused("begin " + alignment, IllegalArgumentException.class, CallBoundsTest::used, x -> x.begin(alignment, 0));
            for (int indent : indents) {
                CHECK.isRefused("begin both wrong", IllegalArgumentException.class, CallBoundsTest::used, x -> x.begin(alignment, indent));
            }
        }
        for (int indent : indents) {
            CHECK.isRefused("begin 0, " + indent, IllegalArgumentException.class, CallBoundsTest::used, x -> x.begin(0, indent));
            CHECK.isRefused("begin 2, " + indent, IllegalArgumentException.class, BracedPages::new, x -> x.begin(2, indent));
        }
    }

    private static void beginsTooMany() {
        CHECK.sentence("UnsupportedOperationException when there are 16.");
        for (int count = 0; count < 16; count++) {
            CHECK.same("begin behind " + count, withParagraphs(count).begin(2, 9), count + 1);
        }
        CHECK.isRefused("a seventeenth", UnsupportedOperationException.class, () -> withParagraphs(16), x -> x.begin(0, 0));
        CHECK.isRefused("a seventeenth, at the edges", UnsupportedOperationException.class, () -> withParagraphs(16), x -> x.begin(2, 9));
        CHECK.isRefused("a seventeenth, wrong", IllegalArgumentException.class, () -> withParagraphs(16), x -> x.begin(3, 0));
        BracedPages pages = withParagraphs(16);
        CHECK.isThrown("a seventeenth", UnsupportedOperationException.class, () -> pages.begin(0, 0));
        CHECK.same("a letter still comes to the sixteenth", pages.add('a', 0, 12, 0), 1);
        CHECK.same("there", pages.paragraph(15, 3), 1);
        pages.wipe();
        CHECK.same("begun anew", pages.begin(0, 0), 1);
    }

    private static void addsRuns() {
        CHECK.sentence("Adds a letter to the last paragraph; style is 1 if bold, plus 2 if italic, plus 4 if underlined. Answers how many runs that has then.");
        BracedPages pages = new BracedPages();
        pages.begin(0, 0);
        for (int i = 0; i < 200; i++) {
            CHECK.same("each of another look", pages.add('a', i % 2, 12, 0), i + 1);
        }
        pages.begin(0, 0);
        for (int i = 0; i < 200; i++) {
            CHECK.same("all of one look", pages.add('b', 1, 12, 0), 1);
        }
        CHECK.same("the first paragraph", pages.paragraph(0, 3), 200);
        CHECK.same("the last one", pages.paragraph(1, 3), 200);
    }

    private static void addsToNoParagraph() {
        CHECK.sentence("IllegalStateException when there are no paragraphs");
        CHECK.isRefused("on a new object", IllegalStateException.class, BracedPages::new, x -> x.add('a', 0, 12, 0));
        CHECK.isRefused("a wrong letter", IllegalStateException.class, BracedPages::new, x -> x.add(31, 8, 0, 8));
        CHECK.isRefused("on a wiped page", IllegalStateException.class, CallBoundsTest::wiped, x -> x.add('a', 0, 12, 0));
        BracedPages pages = Check.fed("{}");
        pages.begin(0, 0);
        pages.readBraced();
        CHECK.isThrown("on a page that was read so", IllegalStateException.class, () -> pages.add('a', 0, 12, 0));
    }

    private static BracedPages wiped() {
        BracedPages pages = used();
        pages.wipe();
        return pages;
    }

    private static void addsNoLetter() {
        CHECK.sentence("IllegalArgumentException when code, style, size or colour is none");
        int[][] wrong = {{LEAST, 0, 12, 0}, {-1, 0, 12, 0}, {0, 0, 12, 0}, {10, 0, 12, 0}, {31, 0, 12, 0}, {256, 0, 12, 0}, {288, 0, 12, 0}, {MOST, 0, 12, 0},
            {97, LEAST, 12, 0}, {97, -1, 12, 0}, {97, 8, 12, 0}, {97, 9, 12, 0}, {97, MOST, 12, 0},
            {97, 0, LEAST, 0}, {97, 0, -1, 0}, {97, 0, 0, 0}, {97, 0, 100, 0}, {97, 0, 128, 0}, {97, 0, MOST, 0},
            {97, 0, 12, LEAST}, {97, 0, 12, -1}, {97, 0, 12, 8}, {97, 0, 12, 9}, {97, 0, 12, MOST}, {31, 8, 100, 8}};
        for (int[] n : wrong) {
            String what = "add " + n[0] + " " + n[1] + " " + n[2] + " " + n[3];
            CHECK.isRefused(what, IllegalArgumentException.class, CallBoundsTest::used, x -> x.add(n[0], n[1], n[2], n[3]));
        }
        int[][] right = {{32, 0, 1, 0}, {255, 7, 99, 7}, {32, 7, 1, 7}, {255, 0, 99, 0}};
        for (int[] n : right) {
            CHECK.same("add", used().add(n[0], n[1], n[2], n[3]), 1);
        }
    }

    private static void addsTooMany() {
        CHECK.sentence("A page has at most 400 letters.");
        BracedPages pages = withLetters(398);
        CHECK.same("the 399th", pages.add('y', 1, 12, 0), 2);
        pages.begin(0, 0);
        CHECK.same("the 400th, in another paragraph", pages.add('z', 0, 12, 0), 1);
        CHECK.sentence("UnsupportedOperationException when the page has 400 letters.");
        CHECK.isThrown("the 401st", UnsupportedOperationException.class, () -> pages.add('a', 0, 12, 0));
        CHECK.isThrown("the 401st, of another look", UnsupportedOperationException.class, () -> pages.add('a', 7, 99, 7));
        CHECK.isThrown("the 401st, wrong", IllegalArgumentException.class, () -> pages.add('a', 8, 12, 0));
        CHECK.same("letters before", pages.paragraph(0, 3), 399);
        CHECK.same("letters", pages.paragraph(1, 3), 1);
        CHECK.same("runs", pages.paragraph(1, 2), 1);
        CHECK.same("the last", pages.letter(1, 0), 'z');
        CHECK.same("a paragraph may begin", pages.begin(0, 0), 3);
        CHECK.isThrown("a letter there", UnsupportedOperationException.class, () -> pages.add('a', 0, 12, 0));
        CHECK.same("it stays empty", pages.paragraph(2, 3), 0);
        CHECK.same("written", pages.writeTagged(), 7 + 398 + 8 + 7 + 1 + 7);
        pages.wipe();
        CHECK.isThrown("no paragraph goes first", IllegalStateException.class, () -> pages.add('a', 0, 12, 0));
        pages.begin(0, 0);
        CHECK.same("wiped letters do not count", pages.add('a', 0, 12, 0), 1);
        pages.readBraced();
        CHECK.same("nor do those before a reading", pages.add('a', 0, 12, 0), 1);
        CHECK.same("letters then", pages.paragraph(0, 3), 399);
    }

    private static void wipes() {
        CHECK.sentence("The page has no paragraphs.");
        BracedPages empty = new BracedPages();
        empty.wipe();
        CHECK.same("an empty page", empty.paragraphs(), 0);
        BracedPages full = Check.fed("{" + Check.repeated("a\\par ", 16) + "}");
        CHECK.same("a full page", full.readBraced(), 16);
        full.wipe();
        CHECK.same("no paragraphs", full.paragraphs(), 0);
        CHECK.isThrown("no first one", NoSuchElementException.class, () -> full.paragraph(0, 0));
        CHECK.isThrown("no last one", NoSuchElementException.class, () -> full.paragraph(15, 0));
        CHECK.isThrown("no run", NoSuchElementException.class, () -> full.run(0, 0, 0));
        CHECK.isThrown("no letter", NoSuchElementException.class, () -> full.letter(0, 0));
        CHECK.same("written", full.writeTagged(), 0);
        for (int p = 1; p <= 16; p++) {
            CHECK.same("begun anew", full.begin(0, 0), p);
            CHECK.same("without letters", full.paragraph(p - 1, 3), 0);
        }
        BracedPages used = used();
        BracedPages spared = used();
        used.wipe();
        CHECK.same("OUT stays", Check.out(used), Check.out(spared));
        CHECK.same("AT stays", used.at(), 4);
        CHECK.same("IN stays", Check.seenOfIn(used), Check.seenOfIn(spared));
    }

    private static void countsParagraphs() {
        CHECK.sentence("How many paragraphs the page has.");
        for (int count = 0; count <= 16; count++) {
            CHECK.same("made", withParagraphs(count).paragraphs(), count);
            BracedPages braced = Check.fed("{" + Check.repeated("\\par", count) + "}");
            CHECK.same("read braced", braced.readBraced(), count);
            CHECK.same("then", braced.paragraphs(), count);
            BracedPages tagged = Check.fed(Check.repeated("<p></p>", count));
            CHECK.same("read tagged", tagged.readTagged(), count);
            CHECK.same("then", tagged.paragraphs(), count);
        }
    }

    private static void tellsParagraphs() {
        CHECK.sentence("Of paragraph p, from 0: 0 its alignment, 1 its indent, 2 how many runs, 3 how many letters.");
        int[] due = {2, 9, 2, 2};
        for (int what = 0; what < 4; what++) {
            CHECK.same("paragraph(0, " + what + ")", used().paragraph(0, what), due[what]);
        }
        CHECK.same("the last one", used().paragraph(1, 0), 1);
        CHECK.same("the sixteenth", withParagraphs(16).paragraph(15, 1), 5);
        CHECK.sentence("NoSuchElementException when there is no such paragraph");
        int[] others = {LEAST, LEAST + 1, -1, 2, 15, 16, 17, MOST - 1, MOST};
        int[] numbers = {LEAST, -1, 0, 1, 2, 3, 4, MOST};
        for (int p : others) {
            for (int what : numbers) {
                CHECK.isRefused("paragraph " + p, NoSuchElementException.class, CallBoundsTest::used, x -> x.paragraph(p, what));
            }
        }
        CHECK.isRefused("the first of none", NoSuchElementException.class, BracedPages::new, x -> x.paragraph(0, 0));
        CHECK.isRefused("the seventeenth", NoSuchElementException.class, () -> withParagraphs(16), x -> x.paragraph(16, 0));
        CHECK.sentence("IllegalArgumentException when what is none of these.");
        int[] none = {LEAST, -1, 4, 5, 256, MOST};
        for (int what : none) {
            CHECK.isRefused("what " + what, IllegalArgumentException.class, CallBoundsTest::used, x -> x.paragraph(0, what));
            CHECK.isRefused("what " + what, IllegalArgumentException.class, CallBoundsTest::used, x -> x.paragraph(1, what));
        }
    }

    private static void tellsRuns() {
        CHECK.sentence("Of run r of a paragraph: 0 its style (as for add), 1 its size, 2 its colour, 3 how many letters.");
        int[] due = {1, 20, 3, 1, 0, 12, 0, 1};
        for (int i = 0; i < due.length; i++) {
            CHECK.same("run(0, " + i / 4 + ", " + i % 4 + ")", used().run(0, i / 4, i % 4), due[i]);
        }
        CHECK.same("a run as long as a page", withLetters(398).run(0, 0, 3), 398);
        CHECK.sentence("NoSuchElementException when there is no such paragraph or run");
        int[][] others = {{LEAST, 0}, {-1, 0}, {2, 0}, {16, 0}, {MOST, 0}, {0, LEAST}, {0, -1}, {0, 2}, {0, 400}, {0, MOST}, {1, 0}, {1, -1}, {2, 2}, {-1, -1}};
        int[] numbers = {LEAST, -1, 0, 3, 4, MOST};
        for (int[] n : others) {
            for (int what : numbers) {
                CHECK.isRefused("run " + n[0] + " " + n[1], NoSuchElementException.class, CallBoundsTest::used, x -> x.run(n[0], n[1], what));
            }
        }
        CHECK.isRefused("the first of none", NoSuchElementException.class, BracedPages::new, x -> x.run(0, 0, 0));
        CHECK.sentence("IllegalArgumentException when what is none of these.");
        int[] none = {LEAST, -1, 4, 5, 256, MOST};
        for (int what : none) {
            CHECK.isRefused("what " + what, IllegalArgumentException.class, CallBoundsTest::used, x -> x.run(0, 0, what));
            CHECK.isRefused("what " + what, IllegalArgumentException.class, CallBoundsTest::used, x -> x.run(0, 1, what));
        }
    }

    private static void tellsLetters() {
        CHECK.sentence("The code of letter i of a paragraph. NoSuchElementException when there is none.");
        CHECK.same("the first", used().letter(0, 0), 'k');
        CHECK.same("the last", used().letter(0, 1), 'l');
        CHECK.same("the last of a long one", withLetters(398).letter(0, 397), 'z');
        CHECK.isThrown("behind it", NoSuchElementException.class, () -> withLetters(398).letter(0, 398));
        int[][] others = {{LEAST, 0}, {-1, 0}, {2, 0}, {16, 0}, {MOST, 0}, {0, LEAST}, {0, -1}, {0, 2}, {0, 400}, {0, MOST}, {1, 0}, {1, -1}, {1, MOST}, {2, -1}};
        for (int[] n : others) {
            CHECK.isRefused("letter " + n[0] + " " + n[1], NoSuchElementException.class, CallBoundsTest::used, x -> x.letter(n[0], n[1]));
        }
        CHECK.isRefused("the first of none", NoSuchElementException.class, BracedPages::new, x -> x.letter(0, 0));
        BracedPages pages = Check.fed("<p>ab</p><p></p><p>cd</p>");
        pages.readTagged();
        CHECK.isThrown("not one of the next paragraph", NoSuchElementException.class, () -> pages.letter(0, 2));
        CHECK.isThrown("none in an empty one", NoSuchElementException.class, () -> pages.letter(1, 0));
        CHECK.isThrown("not one of the paragraph before", NoSuchElementException.class, () -> pages.letter(2, -1));
        CHECK.same("its own first", pages.letter(2, 0), 'c');
    }
}
