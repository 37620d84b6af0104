import java.util.function.ToIntFunction;

/** One of the two written forms as it is read: what the tests of both readings share. */
final class Form {
    private static final String PAGE_BEFORE = "1 2 (1 20 3|k)", OUT_BEFORE = "<p C2><b><s 20><c 3>k</c></s></b></p>";
    private final Check check;
    private final ToIntFunction<BracedPages> reading;

    Form(Check check, ToIntFunction<BracedPages> reading) {
        this.check = check;
        this.reading = reading;
    }

    /** The text is read as this page, whatever the page was before, and IN and OUT stay. */
    void page(String text, String due) {
        BracedPages pages = used(text);
        int answer = reading.applyAsInt(pages);
        check.same(text, Check.told(pages), due);
        check.same(text + " paragraphs", answer, pages.paragraphs());
        check.same(text + " at", pages.at(), BracedPages.NONE);
        check.same(text + " leaves OUT", Check.out(pages), OUT_BEFORE);
        pages.wipe();
        check.same(text + " leaves IN", reading.applyAsInt(pages), answer);
    }

    /** The text has this fault, met there, and nothing but AT is changed. */
    void fault(String text, int due, int at) {
        BracedPages pages = used(text);
        check.same(text, reading.applyAsInt(pages), due);
        check.same(text + " at", pages.at(), at);
        check.same(text + " leaves the page", Check.told(pages), PAGE_BEFORE);
        check.same(text + " leaves OUT", Check.out(pages), OUT_BEFORE);
        check.same(text + " leaves IN", reading.applyAsInt(pages), due);
        check.same(text + " leaves IN: at", pages.at(), at);
    }

    /** A full page, and what becomes of it by a fault and by an empty page. */
    void replacesFull(String full, String empty, String wrong) {
        BracedPages pages = Check.fed(full);
        check.same("a full page", reading.applyAsInt(pages), 16);
        String before = Check.told(pages);
        replace(pages, wrong);
        check.same(wrong + " is a fault", reading.applyAsInt(pages) < BracedPages.NONE ? 1 : 0, 1);
        check.same("a fault leaves a full page", Check.told(pages), before);
        replace(pages, empty);
        check.same("an empty page", reading.applyAsInt(pages), 0);
        check.same("nothing of the full one is left", Check.told(pages), "");
        check.same("a paragraph behind it", pages.begin(0, 0), 1);
        check.same("has no letters", Check.told(pages), "0 0");
    }

    /** An empty page, and what becomes of it by a fault and by a full page. */
    void replacesEmpty(String full, String empty, String wrong) {
        BracedPages pages = Check.fed(empty);
        check.same("an empty page", reading.applyAsInt(pages), 0);
        replace(pages, wrong);
        check.same(wrong + " is a fault", reading.applyAsInt(pages) < BracedPages.NONE ? 1 : 0, 1);
        check.same("a fault leaves an empty page", Check.told(pages), "");
        replace(pages, full);
        check.same("a full page", reading.applyAsInt(pages), 16);
        BracedPages other = Check.fed(full);
        reading.applyAsInt(other);
        check.same("as on a new object", Check.told(pages), Check.told(other));
    }

    private static void replace(BracedPages pages, String text) {
        pages.clear();
        Check.feedAll(pages, text);
    }

    private static BracedPages used(String text) {
        BracedPages pages = Check.fed(text);
        pages.begin(1, 2);
        pages.add('k', 1, 20, 3);
        pages.writeTagged();
        return pages;
    }
}
