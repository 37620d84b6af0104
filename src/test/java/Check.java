import java.util.function.Supplier;
import java.util.function.ToIntFunction;

/** What the tests share: comparing, feeding texts, and telling a page and OUT as a text. */
final class Check {
    private final String name;
    private String sentence = "";
    private int checks;
    private int wrong;

    Check(String name) {
        this.name = name;
    }

    /** A call that may throw. */
    interface Call {
        int call();
    }

    /** From here on all checks belong to these words of the document. */
    void sentence(String words) {
        sentence = words;
    }

    void same(String what, long got, long due) {
        checks++;
        if (got != due) {
            report(what, Long.toString(got), Long.toString(due));
        }
    }

    void same(String what, String got, String due) {
        checks++;
        if (!got.equals(due)) {
            report(what, got, due);
        }
    }

    void isThrown(String what, Class<? extends RuntimeException> due, Call call) {
        checks++;
        try {
            report(what, Integer.toString(call.call()), due.getSimpleName());
        } catch (RuntimeException thrown) {
            if (thrown.getClass() != due) {
                report(what, thrown.getClass().getSimpleName(), due.getSimpleName());
            }
        }
    }

    /** The call is refused, and the object is then as one of the same making that was not called. */
    void isRefused(String what, Class<? extends RuntimeException> due, Supplier<BracedPages> making, ToIntFunction<BracedPages> call) {
        BracedPages called = making.get();
        BracedPages spared = making.get();
        isThrown(what, due, () -> call.applyAsInt(called));
        same(what + " leaves all but IN", seen(called), seen(spared));
        same(what + " leaves IN", seenOfIn(called), seenOfIn(spared));
    }

    private void report(String what, String got, String due) {
        wrong++;
        String where = sentence.isEmpty() ? name : name + ", \"" + sentence + "\"";
        System.out.println(where + ": " + what.replace("\n", "\\n") + " answered " + got + ", due is " + due);
    }

    void end() {
        System.out.println(name + ": " + checks + " checks, " + wrong + " wrong");
        if (wrong != 0) {
            System.exit(1);
        }
    }

    static long packed(String text) {
        long bytes = 0;
        for (int i = text.length() - 1; i >= 0; i--) {
            bytes = bytes << 8 | text.charAt(i);
        }
        return bytes;
    }

    static void feedAll(BracedPages pages, String text) {
        for (int i = 0; i < text.length(); i += 8) {
            pages.feed(packed(text.substring(i, Math.min(text.length(), i + 8))));
        }
    }

    static BracedPages fed(String text) {
        BracedPages pages = new BracedPages();
        feedAll(pages, text);
        return pages;
    }

    static String out(BracedPages pages) {
        StringBuilder text = new StringBuilder();
        int character = pages.out(0);
        while (character != BracedPages.NONE) {
            text.append((char) character);
            character = pages.out(text.length());
        }
        return text.toString();
    }

    /** All that can be seen of an object but IN. */
    static String seen(BracedPages pages) {
        return told(pages) + ", OUT " + out(pages) + ", AT " + pages.at();
    }

    /** What IN is read as in both forms; this changes the page and AT. */
    static String seenOfIn(BracedPages pages) {
        String braced = pages.readBraced() + " at " + pages.at() + ": " + told(pages);
        return braced + ", " + pages.readTagged() + " at " + pages.at() + ": " + told(pages);
    }

    /** Each paragraph as "alignment indent", and behind it each run as "(style size colour|letters)". */
    static String told(BracedPages pages) {
        StringBuilder text = new StringBuilder();
        int paragraphs = pages.paragraphs();
        for (int p = 0; p < paragraphs; p++) {
            text.append(p == 0 ? "" : " / ").append(pages.paragraph(p, 0)).append(' ').append(pages.paragraph(p, 1));
            int letter = 0;
            int runs = pages.paragraph(p, 2);
            for (int r = 0; r < runs; r++) {
                text.append(" (").append(pages.run(p, r, 0)).append(' ').append(pages.run(p, r, 1));
                text.append(' ').append(pages.run(p, r, 2)).append('|');
                int end = letter + pages.run(p, r, 3);
                while (letter < end) {
                    text.append((char) pages.letter(p, letter));
                    letter++;
                }
                text.append(')');
            }
            if (letter != pages.paragraph(p, 3)) {
                text.append(" but ").append(pages.paragraph(p, 3)).append(" letters");
            }
        }
        return text.toString();
    }

    static String repeated(String text, int times) {
        return text.repeat(times);
    }

    /** All characters that IN may have. */
    static String characters() {
        StringBuilder text = new StringBuilder("\n");
        for (char c = 32; c <= 126; c++) {
            text.append(c);
        }
        return text.toString();
    }
}
