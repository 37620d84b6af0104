import java.util.function.ToIntFunction;

/** One of the two written forms as it is read: what the tests of both readings share. */
final class Form {
    private static final String PAGE_BEFORE = "1 2 (1 20 3|k)", OUT_BEFORE = "<p C2><b><s 20><c 3>k</c></s></b></p>";
    private final Check check;
    private final ToIntFunction<BracedPages> reading;

    Form(Check check, ToIntFunction<BracedPages> reading) {
        this.check = check;
        this.reading = reading;
    }

    /** The text is read as this page, whatever the page was before, and IN and OUT stay. */
    void page(String text, String due) {
        BracedPages pages = used(text);
        int answer = reading.applyAsInt(pages);
        check.same(text, Check.told(pages), due);
        check.same(text + " paragraphs", answer, pages.paragraphs());
        check.same(text + " at", pages.at(), BracedPages.NONE);
        check.same(text + " leaves OUT", Check.out(pages), OUT_BEFORE);
        pages.wipe();
        check.same(text + " leaves IN", reading.applyAsInt(pages), answer);
    }

    /** The text has this fault, met there, and nothing but AT is changed. */
    void fault(String text, int due, int at) {
        BracedPages pages = used(text);
        check.same(text, reading.applyAsInt(pages), due);
        check.same(text + " at", pages.at(), at);
        check.same(text + " leaves the page", Check.told(pages), PAGE_BEFORE);
        check.same(text + " leaves OUT", Check.out(pages), OUT_BEFORE);
        check.same(text + " leaves IN", reading.applyAsInt(pages), due);
        check.same(text + " leaves IN: at", pages.at(), at);
    }

    private static BracedPages used(String text) {
        BracedPages pages = Check.fed(text);
        pages.begin(1, 2);
        pages.add('k', 1, 20, 3);
        pages.writeTagged();
        return pages;
    }
}
