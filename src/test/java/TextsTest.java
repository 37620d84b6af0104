/** Promises 1 to 4, 7 and 10: a new object, and how characters come into IN and out of OUT. */
public final class TextsTest {
    private static final Check CHECK = new Check("TextsTest");

    public static void main(String[] arguments) {
        newObject();
        feeding();
        feedingFaults();
        feedingFullIn();
        clearing();
        taking();
        takingTooLong();
        outside();
        whereMet();
        CHECK.end();
    }

    private static void newObject() {
        BracedPages pages = new BracedPages();
        CHECK.same("new: paragraphs", pages.paragraphs(), 0);
        CHECK.same("new: at", pages.at(), BracedPages.NONE);
        CHECK.same("new: out(0)", pages.out(0), BracedPages.NONE);
        CHECK.same("new: take", pages.take(), 0);
        CHECK.same("new: readTagged", pages.readTagged(), 0);
        CHECK.same("new: readBraced", pages.readBraced(), BracedPages.OPEN);
        CHECK.isThrown("new: add", IllegalStateException.class, () -> new BracedPages().add(97, 0, 12, 0));
    }

    private static void feeding() {
        BracedPages pages = new BracedPages();
        CHECK.same("feed 8", pages.feed(Check.packed("<p>ab cd")), 8);
        CHECK.same("feed 4", pages.feed(Check.packed("</p>")), 4);
        CHECK.same("feed 0", pages.feed(0), 0);
        CHECK.same("read what was fed", pages.readTagged(), 1);
        CHECK.same("the page that was fed", Check.told(pages), "0 0 (0 12 0|ab cd)");
        // Bytes behind the first 0 may be anything.
        CHECK.same("feed behind 0", new BracedPages().feed(0xff01_0000_0000_7e20L), 2);
        CHECK.same("feed 0 and then wrong", new BracedPages().feed(0xff00L), 0);
        CHECK.same("feed 10", new BracedPages().feed(0x0a0aL), 2);
        CHECK.same("feed 32 and 126", new BracedPages().feed(0x7e20L), 2);
    }

    private static void feedingFaults() {
        long[] wrong = {1, 9, 11, 31, 127, 128, 255, 0x7f61, 0x1f61616161616161L, 0x8061616161616161L, -1, Long.MIN_VALUE | 0x01L};
        for (long text : wrong) {
            CHECK.isThrown("feed " + text, IllegalArgumentException.class, () -> new BracedPages().feed(text));
        }
        CHECK.same("feed only a highest byte", new BracedPages().feed(Long.MIN_VALUE), 0);
        BracedPages pages = Check.fed("<p>a</p>");
        CHECK.isThrown("feed a wrong one behind right ones", IllegalArgumentException.class, () -> pages.feed(0x7f6161L));
        CHECK.same("nothing was added", pages.readTagged(), 1);
    }

    private static void feedingFullIn() {
        BracedPages pages = Check.fed("{" + Check.repeated("a", 395));
        CHECK.isThrown("feed to 401", UnsupportedOperationException.class, () -> pages.feed(Check.packed("aaaa}")));
        CHECK.isThrown("feed to 401, and a wrong one", IllegalArgumentException.class, () -> pages.feed(0x7f61616161L));
        CHECK.same("nothing was added", pages.readBraced(), BracedPages.OPEN);
        CHECK.same("nothing was added: at", pages.at(), 396);
        CHECK.same("feed to 400", pages.feed(Check.packed("aaa}")), 4);
        CHECK.same("read 400", pages.readBraced(), 1);
        CHECK.same("letters of 400", pages.paragraph(0, 3), 398);
        CHECK.same("feed nothing to 400", pages.feed(0), 0);
        CHECK.isThrown("feed one to 400", UnsupportedOperationException.class, () -> pages.feed(97));
        CHECK.isThrown("feed a wrong one to 400", IllegalArgumentException.class, () -> pages.feed(127));
    }

    private static void clearing() {
        BracedPages pages = Check.fed("<p>a</p>");
        pages.readTagged();
        pages.writeTagged();
        pages.clear();
        CHECK.same("clear leaves the page", Check.told(pages), "0 0 (0 12 0|a)");
        CHECK.same("clear leaves OUT", Check.out(pages), "<p>a</p>");
        CHECK.same("clear empties IN", pages.readBraced(), BracedPages.OPEN);
        CHECK.same("clear leaves AT", pages.at(), 0);
        pages.clear();
        CHECK.same("clear leaves AT again", pages.at(), 0);
        CHECK.same("empty IN, tagged", pages.readTagged(), 0);
        CHECK.same("the page is empty", pages.paragraphs(), 0);
    }

    private static void taking() {
        BracedPages pages = Check.fed("<p>a</p>");
        pages.readTagged();
        pages.writeBraced();
        CHECK.same("take", pages.take(), 14);
        CHECK.same("take leaves OUT", Check.out(pages), "{\\pard{a}\\par}");
        CHECK.same("IN is not tagged now", pages.readTagged(), BracedPages.TAG);
        CHECK.same("IN is braced now", pages.readBraced(), 1);
        pages.wipe();
        CHECK.same("IN stays when it is read", pages.readBraced(), 1);
        pages.clear();
        CHECK.same("OUT is not emptied with IN", pages.take(), 14);
        CHECK.same("feed behind what was taken", pages.feed(Check.packed("x")), 1);
        CHECK.same("OUT is not fed with IN", Check.out(pages), "{\\pard{a}\\par}");
        CHECK.same("read behind", pages.readBraced(), BracedPages.BEHIND);
        CHECK.same("read behind: at", pages.at(), 14);
    }

    private static void takingTooLong() {
        BracedPages pages = Check.fed("<p>a</p>");
        pages.begin(0, 0);
        for (int i = 0; i < 393; i++) {
            pages.add(98, 0, 12, 0);
        }
        CHECK.same("write 400", pages.writeTagged(), 400);
        pages.add(98, 0, 12, 0);
        CHECK.same("write 401", pages.writeTagged(), 401);
        CHECK.isThrown("take 401", UnsupportedOperationException.class, pages::take);
        CHECK.same("IN stays", pages.readTagged(), 1);
        CHECK.same("IN stays: page", Check.told(pages), "0 0 (0 12 0|a)");
        CHECK.same("OUT stays", pages.out(400), '>');

        BracedPages just = new BracedPages();
        just.begin(0, 0);
        for (int i = 0; i < 393; i++) {
            just.add(98, 0, 12, 0);
        }
        just.writeTagged();
        CHECK.same("take 400", just.take(), 400);
        CHECK.same("read 400", just.readTagged(), 1);
        CHECK.same("letters", just.paragraph(0, 3), 393);
    }

    private static void outside() {
        BracedPages pages = new BracedPages();
        CHECK.same("write braced", pages.writeBraced(), 2);
        CHECK.same("out(0)", pages.out(0), '{');
        CHECK.same("out(1)", pages.out(1), '}');
        CHECK.same("out(2)", pages.out(2), BracedPages.NONE);
        CHECK.same("out(-1)", pages.out(-1), BracedPages.NONE);
        CHECK.same("out(least)", pages.out(Integer.MIN_VALUE), BracedPages.NONE);
        CHECK.same("out(most)", pages.out(Integer.MAX_VALUE), BracedPages.NONE);
        CHECK.same("write tagged", pages.writeTagged(), 0);
        CHECK.same("out(0) of nothing", pages.out(0), BracedPages.NONE);
    }

    private static void whereMet() {
        BracedPages pages = Check.fed("{ab");
        CHECK.same("a fault", pages.readBraced(), BracedPages.OPEN);
        CHECK.same("its place", pages.at(), 3);
        pages.wipe();
        pages.begin(0, 0);
        pages.writeBraced();
        CHECK.same("its place stays", pages.at(), 3);
        CHECK.same("a fault of the other reading", pages.readTagged(), BracedPages.TAG);
        CHECK.same("the latest place", pages.at(), 0);
        pages.feed(Check.packed("}"));
        CHECK.same("no fault", pages.readBraced(), 1);
        CHECK.same("no place", pages.at(), BracedPages.NONE);
    }
}
