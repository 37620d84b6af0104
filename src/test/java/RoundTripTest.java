import java.util.Random;

/** Both forms say the same pages: pages and texts at random (of fixed seeds), each written and read again. */
public final class RoundTripTest {
    private static final Check CHECK = new Check("RoundTripTest");
    private static final String[] BRACED_PIECES = {"{", "{", "}", "}", "a", "b", " ", "\n", "\\", "\\b", "\\b0", "\\i ", "\\ul ",
        "\\fs20 ", "\\fs", "\\cf1 ", "\\cf2 ", "\\plain ", "\\qc", "\\qr ", "\\li3 ", "\\pard", "\\par", "\\par ", "\\uc2 ",
        "\\u65 ", "\\u200?", "\\'e9", "\\'1", "\\~", "\\{", "\\}", "\\\\", "\\*", "{\\*", "{\\colortbl;red;blue;}", "{\\colortbl",
        ";", "1", "-", "\\x", "\\foo12 "};
    private static final String[] TAGGED_PIECES = {"<p>", "<p C3>", "<p R>", "<p 2>", "</p>", "</p>", "<b>", "<i>", "<u>", "<s 20>",
        "<s 12>", "<c 3>", "<c 8>", "</b>", "</i>", "</u>", "</s>", "</c>", "a", "b", "&lt;", "&200;", "&1;", "<", ">", "&", "\n"};

    public static void main(String[] arguments) {
        Random random = new Random(20261115);
        for (int i = 0; i < 3000; i++) {
            pageAtRandom(random);
        }
        for (int i = 0; i < 20000; i++) {
            bracedAtRandom(random);
            taggedAtRandom(random);
        }
        for (int i = 0; i < 5000; i++) {
            damagedTagged(random);
        }
        CHECK.end();
    }

    private static BracedPages made(Random random) {
        BracedPages pages = new BracedPages();
        int paragraphs = random.nextInt(4);
        for (int p = 0; p < paragraphs; p++) {
            pages.begin(random.nextInt(3), random.nextInt(3) == 0 ? 0 : random.nextInt(10));
            int letters = random.nextInt(6);
            int style = 0;
            int size = 12;
            int colour = 0;
            for (int i = 0; i < letters; i++) {
                if (random.nextInt(3) == 0) {
                    style = random.nextInt(8);
                    size = random.nextBoolean() ? 12 : 1 + random.nextInt(99);
                    colour = random.nextBoolean() ? 0 : random.nextInt(8);
                }
                pages.add(32 + random.nextInt(224), style, size, colour);
            }
        }
        return pages;
    }

    private static void pageAtRandom(Random random) {
        BracedPages pages = made(random);
        String due = Check.told(pages);
        if (pages.writeBraced() <= 400) {
            pages.take();
            pages.wipe();
            pages.readBraced();
            CHECK.same("braced and read again", Check.told(pages), due);
            CHECK.same("without a fault", pages.at(), BracedPages.NONE);
        }
        if (pages.writeTagged() <= 400) {
            pages.take();
            pages.wipe();
            pages.readTagged();
            CHECK.same("tagged and read again", Check.told(pages), due);
            CHECK.same("without a fault", pages.at(), BracedPages.NONE);
        }
    }

    private static String pieces(Random random, String[] from, int most) {
        StringBuilder text = new StringBuilder();
        int count = random.nextInt(most);
        for (int i = 0; i < count; i++) {
            text.append(from[random.nextInt(from.length)]);
        }
        return text.substring(0, Math.min(text.length(), 400));
    }

    private static void bracedAtRandom(Random random) {
        String text = "{" + pieces(random, BRACED_PIECES, 12) + "}";
        BracedPages pages = Check.fed(text);
        int answer = pages.readBraced();
        place(text, pages, answer);
        if (answer < 0) {
            return;
        }
        String due = Check.told(pages);
        pages.writeBraced();
        pages.take();
        CHECK.same(text + " written and read again", pages.readBraced(), answer);
        CHECK.same(text + " written and read again", Check.told(pages), due);
    }

    private static void taggedAtRandom(Random random) {
        taggedIsWrittenAgain("<p>" + pieces(random, TAGGED_PIECES, 7) + "</p>");
    }

    private static void damagedTagged(Random random) {
        BracedPages pages = made(random);
        pages.writeTagged();
        StringBuilder text = new StringBuilder(Check.out(pages));
        if (text.length() == 0 || text.length() > 400) {
            return;
        }
        String signs = "<>/ &;bpiusc0123456789\n";
        text.setCharAt(random.nextInt(text.length()), signs.charAt(random.nextInt(signs.length())));
        taggedIsWrittenAgain(text.toString());
    }

    /** Just what is written is read: a text that is read must be the one that its page is written as. */
    private static void taggedIsWrittenAgain(String text) {
        BracedPages pages = Check.fed(text);
        int answer = pages.readTagged();
        place(text, pages, answer);
        if (answer >= 0) {
            pages.writeTagged();
            CHECK.same(text + " written again", Check.out(pages), text);
        }
    }

    private static void place(String text, BracedPages pages, int answer) {
        if (answer >= 0) {
            CHECK.same(text + " has no fault", pages.at(), BracedPages.NONE);
            CHECK.same(text + " paragraphs", pages.paragraphs(), answer);
        } else {
            CHECK.same(text + " has a place", pages.at() >= 0 && pages.at() <= text.length() ? 1 : 0, 1);
            CHECK.same(text + " left the page alone", pages.paragraphs(), 0);
        }
    }
}
