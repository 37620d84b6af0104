/** What the tests share: comparing, feeding texts, and telling a page and OUT as a text. */
final class Check {
    private final String name;
    private int checks;
    private int wrong;

    Check(String name) {
        this.name = name;
    }

    /** A call that may throw. */
    interface Call {
        int call();
    }

    void same(String what, long got, long due) {
        checks++;
        if (got != due) {
            report(what, Long.toString(got), Long.toString(due));
        }
    }

    void same(String what, String got, String due) {
        checks++;
        if (!got.equals(due)) {
            report(what, got, due);
        }
    }

    void isThrown(String what, Class<? extends RuntimeException> due, Call call) {
        checks++;
        try {
            report(what, Integer.toString(call.call()), due.getSimpleName());
        } catch (RuntimeException thrown) {
            if (thrown.getClass() != due) {
                report(what, thrown.getClass().getSimpleName(), due.getSimpleName());
            }
        }
    }

    private void report(String what, String got, String due) {
        wrong++;
        System.out.println(name + ": " + what.replace("\n", "\\n") + " answered " + got + ", due is " + due);
    }

    void end() {
        System.out.println(name + ": " + checks + " checks, " + wrong + " wrong");
        if (wrong != 0) {
            System.exit(1);
        }
    }

    static long packed(String text) {
        long bytes = 0;
        for (int i = text.length() - 1; i >= 0; i--) {
            bytes = bytes << 8 | text.charAt(i);
        }
        return bytes;
    }

    static void feedAll(BracedPages pages, String text) {
        for (int i = 0; i < text.length(); i += 8) {
            pages.feed(packed(text.substring(i, Math.min(text.length(), i + 8))));
        }
    }

    static BracedPages fed(String text) {
        BracedPages pages = new BracedPages();
        feedAll(pages, text);
        return pages;
    }

    static String out(BracedPages pages) {
        StringBuilder text = new StringBuilder();
        for (int i = 0; pages.out(i) != BracedPages.NONE; i++) {
            text.append((char) pages.out(i));
        }
        return text.toString();
    }

    /** Each paragraph as "alignment indent", and behind it each run as "(style size colour|letters)". */
    static String told(BracedPages pages) {
        StringBuilder text = new StringBuilder();
        for (int p = 0; p < pages.paragraphs(); p++) {
            text.append(p == 0 ? "" : " / ").append(pages.paragraph(p, 0)).append(' ').append(pages.paragraph(p, 1));
            int letter = 0;
            for (int r = 0; r < pages.paragraph(p, 2); r++) {
                text.append(" (").append(pages.run(p, r, 0)).append(' ').append(pages.run(p, r, 1));
                text.append(' ').append(pages.run(p, r, 2)).append('|');
                for (int i = 0; i < pages.run(p, r, 3); i++) {
                    text.append((char) pages.letter(p, letter));
                    letter++;
                }
                text.append(')');
            }
            if (letter != pages.paragraph(p, 3)) {
                text.append(" but ").append(pages.paragraph(p, 3)).append(" letters");
            }
        }
        return text.toString();
    }

    static String repeated(String text, int times) {
        return text.repeat(times);
    }
}
