import java.util.NoSuchElementException;

/** Promises 11 to 17: the page as it is made and looked at. */
public final class PageTest {
    private static final Check CHECK = new Check("PageTest");
    private static final int LEAST = Integer.MIN_VALUE, MOST = Integer.MAX_VALUE;

    public static void main(String[] arguments) {
        beginning();
        adding();
        addingFaults();
        tooManyLetters();
        goingOnAfterReading();
        wiping();
        paragraphNumbers();
        runNumbers();
        letterCodes();
        CHECK.end();
    }

    private static void beginning() {
        BracedPages pages = new BracedPages();
        int[][] wrong = {{-1, 0}, {3, 0}, {0, -1}, {0, 10}, {LEAST, 0}, {MOST, 0}, {0, LEAST}, {0, MOST}};
        for (int[] numbers : wrong) {
            CHECK.isThrown("begin", IllegalArgumentException.class, () -> pages.begin(numbers[0], numbers[1]));
        }
        CHECK.same("nothing has begun", pages.paragraphs(), 0);
        for (int p = 0; p < 16; p++) {
            CHECK.same("begin " + p, pages.begin(p % 3, p % 10), p + 1);
            CHECK.same("paragraphs", pages.paragraphs(), p + 1);
        }
        for (int p = 0; p < 16; p++) {
            CHECK.same("alignment " + p, pages.paragraph(p, 0), p % 3);
            CHECK.same("indent " + p, pages.paragraph(p, 1), p % 10);
            CHECK.same("runs " + p, pages.paragraph(p, 2), 0);
            CHECK.same("letters " + p, pages.paragraph(p, 3), 0);
        }
        CHECK.isThrown("a seventeenth", UnsupportedOperationException.class, () -> pages.begin(0, 0));
        CHECK.isThrown("a seventeenth, wrong", IllegalArgumentException.class, () -> pages.begin(3, 0));
        CHECK.same("still sixteen", pages.paragraphs(), 16);
        CHECK.same("a letter in the sixteenth", pages.add('a', 0, 12, 0), 1);
        CHECK.same("is there", pages.paragraph(15, 3), 1);
        CHECK.same("and not before", pages.paragraph(14, 3), 0);
    }

    private static void adding() {
        BracedPages pages = new BracedPages();
        pages.begin(0, 0);
        CHECK.same("first", pages.add(32, 0, 1, 0), 1);
        CHECK.same("same look", pages.add(255, 0, 1, 0), 1);
        CHECK.same("other style", pages.add('a', 1, 1, 0), 2);
        CHECK.same("other style again", pages.add('a', 2, 1, 0), 3);
        CHECK.same("other size", pages.add('a', 2, 99, 0), 4);
        CHECK.same("other colour", pages.add('a', 2, 99, 7), 5);
        CHECK.same("same look again", pages.add('b', 2, 99, 7), 5);
        CHECK.same("as at first", pages.add('b', 0, 1, 0), 6);
        CHECK.same("told", Check.told(pages), "0 0 (0 1 0| \u00ff) (1 1 0|a) (2 1 0|a) (2 99 0|a) (2 99 7|ab) (0 1 0|b)");
        pages.begin(2, 3);
        CHECK.same("the look of the paragraph before", pages.add('c', 0, 1, 0), 1);
        CHECK.same("first paragraph", pages.paragraph(0, 3), 8);
        CHECK.same("second paragraph", pages.paragraph(1, 3), 1);
    }

    private static void addingFaults() {
        BracedPages pages = new BracedPages();
        CHECK.isThrown("no paragraph", IllegalStateException.class, () -> pages.add('a', 0, 12, 0));
        CHECK.isThrown("no paragraph and a wrong code", IllegalStateException.class, () -> pages.add(0, 0, 12, 0));
        pages.begin(0, 0);
        int[][] wrong = {{31, 0, 12, 0}, {256, 0, 12, 0}, {10, 0, 12, 0}, {-1, 0, 12, 0}, {LEAST, 0, 12, 0}, {MOST, 0, 12, 0},
            {97, -1, 12, 0}, {97, 8, 12, 0}, {97, LEAST, 12, 0}, {97, MOST, 12, 0},
            {97, 0, 0, 0}, {97, 0, 100, 0}, {97, 0, -1, 0}, {97, 0, LEAST, 0}, {97, 0, MOST, 0},
            {97, 0, 12, -1}, {97, 0, 12, 8}, {97, 0, 12, LEAST}, {97, 0, 12, MOST}};
        for (int[] n : wrong) {
            CHECK.isThrown("add " + n[0] + " " + n[1] + " " + n[2] + " " + n[3], IllegalArgumentException.class,
                () -> pages.add(n[0], n[1], n[2], n[3]));
        }
        CHECK.same("nothing was added", pages.paragraph(0, 3), 0);
        CHECK.same("the edges", pages.add(32, 0, 1, 0) + pages.add(255, 7, 99, 7), 3);
    }

    private static void tooManyLetters() {
        BracedPages pages = new BracedPages();
        pages.begin(0, 0);
        for (int i = 0; i < 200; i++) {
            pages.add('a', i % 2, 12, 0);
        }
        pages.begin(0, 0);
        for (int i = 0; i < 199; i++) {
            pages.add('a', 0, 12, 0);
        }
        CHECK.same("the 400th", pages.add('b', 0, 12, 0), 1);
        CHECK.isThrown("the 401st", UnsupportedOperationException.class, () -> pages.add('a', 0, 12, 0));
        CHECK.isThrown("the 401st, wrong", IllegalArgumentException.class, () -> pages.add('a', 0, 0, 0));
        CHECK.same("runs", pages.paragraph(0, 2), 200);
        CHECK.same("letters", pages.paragraph(1, 3), 200);
        CHECK.same("the last one", pages.letter(1, 199), 'b');
        CHECK.same("a paragraph may still begin", pages.begin(0, 0), 3);
        CHECK.isThrown("but has no letters", UnsupportedOperationException.class, () -> pages.add('a', 0, 12, 0));
        pages.wipe();
        pages.begin(0, 0);
        CHECK.same("wiped letters do not count", pages.add('a', 0, 12, 0), 1);
    }

    private static void goingOnAfterReading() {
        BracedPages pages = Check.fed("{\\b a\\par\\i b}");
        pages.readBraced();
        CHECK.same("added to what was read", pages.add('c', 3, 12, 0), 1);
        CHECK.same("begun behind what was read", pages.begin(1, 1), 3);
        CHECK.same("told", Check.told(pages), "0 0 (1 12 0|a) / 0 0 (3 12 0|bc) / 1 1");
        CHECK.same("read again", pages.readBraced(), 2);
        CHECK.same("the page is what was read", Check.told(pages), "0 0 (1 12 0|a) / 0 0 (3 12 0|b)");
    }

    private static void wiping() {
        BracedPages pages = Check.fed("<p>a</p>");
        pages.readTagged();
        pages.writeTagged();
        pages.wipe();
        CHECK.same("no paragraphs", pages.paragraphs(), 0);
        CHECK.same("OUT stays", Check.out(pages), "<p>a</p>");
        CHECK.isThrown("no letters", NoSuchElementException.class, () -> pages.letter(0, 0));
        CHECK.isThrown("no adding", IllegalStateException.class, () -> pages.add('a', 0, 12, 0));
        CHECK.same("begin anew", pages.begin(0, 0), 1);
        CHECK.same("without letters", pages.paragraph(0, 3), 0);
        CHECK.same("IN stays", pages.readTagged(), 1);
        CHECK.same("read", Check.told(pages), "0 0 (0 12 0|a)");
    }

    private static void paragraphNumbers() {
        BracedPages pages = Check.fed("<p C3>ab<b>c</b></p><p 9></p>");
        pages.readTagged();
        int[] due = {1, 3, 2, 3, 0, 9, 0, 0};
        for (int i = 0; i < due.length; i++) {
            CHECK.same("paragraph " + i / 4 + " " + i % 4, pages.paragraph(i / 4, i % 4), due[i]);
        }
        int[] wrong = {-1, 2, 16, LEAST, MOST};
        for (int p : wrong) {
            CHECK.isThrown("paragraph " + p, NoSuchElementException.class, () -> pages.paragraph(p, 0));
            CHECK.isThrown("paragraph " + p + " and a wrong what", NoSuchElementException.class, () -> pages.paragraph(p, 4));
        }
        int[] none = {-1, 4, LEAST, MOST};
        for (int what : none) {
            CHECK.isThrown("paragraph, what " + what, IllegalArgumentException.class, () -> pages.paragraph(0, what));
        }
    }

    private static void runNumbers() {
        BracedPages pages = Check.fed("<p C3>ab<b><s 20><c 3>cde</c></s></b></p><p 9></p><p><u>x</u></p>");
        pages.readTagged();
        int[] due = {0, 12, 0, 2, 1, 20, 3, 3};
        for (int i = 0; i < due.length; i++) {
            CHECK.same("run " + i / 4 + " " + i % 4, pages.run(0, i / 4, i % 4), due[i]);
        }
        CHECK.same("run of the third", pages.run(2, 0, 0), 4);
        CHECK.same("its length", pages.run(2, 0, 3), 1);
        int[][] wrong = {{-1, 0}, {3, 0}, {LEAST, 0}, {MOST, 0}, {0, -1}, {0, 2}, {0, LEAST}, {0, MOST}, {1, 0}, {1, -1}, {2, 1}};
        for (int[] n : wrong) {
            CHECK.isThrown("run " + n[0] + " " + n[1], NoSuchElementException.class, () -> pages.run(n[0], n[1], 0));
            CHECK.isThrown("run " + n[0] + " " + n[1] + " and a wrong what", NoSuchElementException.class,
                () -> pages.run(n[0], n[1], 4));
        }
        int[] none = {-1, 4, LEAST, MOST};
        for (int what : none) {
            CHECK.isThrown("run, what " + what, IllegalArgumentException.class, () -> pages.run(0, 0, what));
        }
    }

    private static void letterCodes() {
        BracedPages pages = Check.fed("<p>a<b>b</b></p><p></p><p>c&255;</p>");
        pages.readTagged();
        CHECK.same("letter 0 0", pages.letter(0, 0), 'a');
        CHECK.same("letter 0 1", pages.letter(0, 1), 'b');
        CHECK.same("letter 2 0", pages.letter(2, 0), 'c');
        CHECK.same("letter 2 1", pages.letter(2, 1), 255);
        int[][] wrong = {{-1, 0}, {3, 0}, {LEAST, 0}, {MOST, 0}, {0, -1}, {0, 2}, {0, LEAST}, {0, MOST}, {1, 0}, {2, -1}, {2, 2}};
        for (int[] n : wrong) {
            CHECK.isThrown("letter " + n[0] + " " + n[1], NoSuchElementException.class, () -> pages.letter(n[0], n[1]));
        }
    }
}
