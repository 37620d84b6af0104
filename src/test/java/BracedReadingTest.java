/** Promises 5 and 7: the braced form as it is read, with its faults and where they are met. */
public final class BracedReadingTest {
    private static final Check CHECK = new Check("BracedReadingTest");
    private static final Form BRACED = new Form(CHECK, BracedPages::readBraced);

    public static void main(String[] arguments) {
        groups();
        opensAndEnds();
        lookWords();
        layoutWords();
        otherWords();
        numbers();
        escapes();
        stars();
        leavingOut();
        tables();
        tableFaults();
        paragraphs();
        faultsChangeNothing();
        CHECK.end();
    }

    private static void page(String text, String due) {
        BRACED.page(text, due);
    }

    private static void fault(String text, int due, int at) {
        BRACED.fault(text, due, at);
    }

    private static void groups() {
        page("{}", "");
        page("{a}", "0 0 (0 12 0|a)");
        page("{a{\\b b}c}", "0 0 (0 12 0|a) (1 12 0|b) (0 12 0|c)");
        page("{{\\qr\\li4\\fs9 a\\par}b\\par}", "2 4 (0 9 0|a) / 0 0 (0 12 0|b)");
        page("{\\b{\\b0\\i x}y}", "0 0 (2 12 0|x) (1 12 0|y)");
        page("{{\\uc2}\\u65 xyz}", "0 0 (0 12 0|Ayz)");
        page("{\\uc2{\\uc0}\\u65 xyz}", "0 0 (0 12 0|Az)");
        page(Check.repeated("{", 12) + "a" + Check.repeated("}", 12), "0 0 (0 12 0|a)");
        page("{" + Check.repeated("{}", 20) + "a}", "0 0 (0 12 0|a)");
        fault(Check.repeated("{", 13) + "a" + Check.repeated("}", 13), BracedPages.DEEP, 12);
        fault("{{}ab\n" + Check.repeated("{", 12), BracedPages.DEEP, 17);
        fault(Check.repeated("{", 12), BracedPages.OPEN, 12);
    }

    private static void opensAndEnds() {
        fault("", BracedPages.OPEN, 0);
        fault("\n{a}", BracedPages.OPEN, 0);
        fault(" {a}", BracedPages.OPEN, 0);
        fault("}", BracedPages.OPEN, 0);
        fault("\\", BracedPages.OPEN, 0);
        fault("{", BracedPages.OPEN, 1);
        fault("{a{b}", BracedPages.OPEN, 5);
        fault("{a\n\n", BracedPages.OPEN, 4);
        fault("{\\b", BracedPages.OPEN, 3);
        fault("{\\b-", BracedPages.OPEN, 4);
        fault("{\\fs12", BracedPages.OPEN, 6);
        fault("{\\", BracedPages.WORD, 1);
        fault("{a\\'", BracedPages.WORD, 2);
        fault("{a\\'e", BracedPages.WORD, 2);
        String[] full = {"\\", "\\'", "\\'e"};
        for (String cut : full) {
            fault("{" + Check.repeated("a", 399 - cut.length()) + cut, BracedPages.WORD, 400 - cut.length());
        }
        fault("{" + Check.repeated("a", 396) + "\\b-", BracedPages.OPEN, 400);
        fault("{\\*" + Check.repeated("a", 396) + "\\", BracedPages.OPEN, 400);
        fault("{\\" + Check.repeated("a", 398), BracedPages.OPEN, 400);
        page("{a}\n", "0 0 (0 12 0|a)");
        fault("{a}\n \n", BracedPages.BEHIND, 4);
        fault("{a}}", BracedPages.BEHIND, 3);
        fault("{a}{b}", BracedPages.BEHIND, 3);
        fault("{a}\\", BracedPages.BEHIND, 3);
        page("{a\nb}", "0 0 (0 12 0|ab)");
        page("{ !~}", "0 0 (0 12 0| !~)");
    }

    private static void lookWords() {
        page("{\\b a\\i b\\ul c\\b0 d\\i0 e\\ul0 f}",
            "0 0 (1 12 0|a) (3 12 0|b) (7 12 0|c) (6 12 0|d) (4 12 0|e) (0 12 0|f)");
        page("{\\b1 a\\b7 b\\b-3 c\\b0 d\\b-0 e\\b00000 f}", "0 0 (1 12 0|abc) (0 12 0|def)");
        page("{\\ul-1 a\\ul-0 b\\i99999 c}", "0 0 (4 12 0|a) (0 12 0|b) (2 12 0|c)");
        page("{\\fs1 a\\fs99 b\\fs c\\fs00099 d\\fs12 e}", "0 0 (0 1 0|a) (0 99 0|b) (0 12 0|c) (0 99 0|d) (0 12 0|e)");
        page("{{\\colortbl;red;}\\b\\i\\ul\\fs5\\cf1 a\\plain b\\b c\\plain0 d\\plain7 e}",
            "0 0 (7 5 1|a) (0 12 0|b) (1 12 0|c) (0 12 0|de)");
        page("{a\\b\\b0 b}", "0 0 (0 12 0|ab)");
        fault("{a\\fs0 b}", BracedPages.RANGE, 2);
        fault("{a\\fs-0 b}", BracedPages.RANGE, 2);
        fault("{a\\fs-1 b}", BracedPages.RANGE, 2);
        fault("{a\\fs100 b}", BracedPages.RANGE, 2);
    }

    private static void layoutWords() {
        page("{\\qc a\\par\\qr b\\par\\ql c\\par}", "1 0 (0 12 0|a) / 2 0 (0 12 0|b) / 0 0 (0 12 0|c)");
        page("{\\qc0\\par\\qr0\\par\\ql9\\par}", "1 0 / 2 0 / 0 0");
        page("{\\li9\\par\\li\\par\\li0\\par\\li-0\\par\\li3\\par}", "0 9 / 0 0 / 0 0 / 0 0 / 0 3");
        page("{\\qr\\li5 a\\par\\pard b\\par}", "2 5 (0 12 0|a) / 0 0 (0 12 0|b)");
        page("{\\b\\pard a\\par}", "0 0 (1 12 0|a)");
        page("{\\qr\\pard3\\par}", "0 0");
        page("{a\\qc b\\li2\\par}", "1 2 (0 12 0|ab)");
        fault("{\\li10\\par}", BracedPages.RANGE, 1);
        fault("{\\li-1\\par}", BracedPages.RANGE, 1);
        fault("{\\uc10 a}", BracedPages.RANGE, 1);
        fault("{\\uc-1 a}", BracedPages.RANGE, 1);
        page("{\\uc9 a\\uc0 b\\uc-0 c}", "0 0 (0 12 0|abc)");
    }

    private static void otherWords() {
        page("{\\rtf1\\ansi\\foo-5 a\\bar1234567890123 b\\bb c\\colortbl d}", "0 0 (0 12 0|abcd)");
        page("{\\para b\\parx\\pa\\p\\q\\f\\c\\l\\x}", "0 0 (0 12 0|b)");
        page("{x\\colortbl1234567;a;}", "0 0 (0 12 0|x;a;)");
        page("{\\z\\az7 b\\zbz}", "0 0 (0 12 0|b)");
        fault("{\\B}", BracedPages.WORD, 1);
        fault("{\\`}", BracedPages.WORD, 1);
        fault("{\\|}", BracedPages.WORD, 1);
        fault("{ab\\1}", BracedPages.WORD, 3);
        fault("{\\ a}", BracedPages.WORD, 1);
        fault("{\\\n}", BracedPages.WORD, 1);
        fault("{\\-}", BracedPages.WORD, 1);
        fault("{\\;}", BracedPages.WORD, 1);
    }

    private static void numbers() {
        page("{\\b  a}", "0 0 (1 12 0| a)");
        page("{\\b-a}", "0 0 (1 12 0|-a)");
        page("{\\b--1}", "0 0 (1 12 0|--1)");
        page("{\\b- 1}", "0 0 (1 12 0|- 1)");
        page("{\\b -1}", "0 0 (1 12 0|-1)");
        page("{\\b0a}", "0 0 (0 12 0|a)");
        page("{\\b0-1}", "0 0 (0 12 0|-1)");
        page("{\\bB}", "0 0 (1 12 0|B)");
        page("{\\b\n x}", "0 0 (1 12 0| x)");
        page("{\\fs\n20}", "0 0 (0 12 0|20)");
        String[] words = {"b", "i", "ul", "fs", "cf", "plain", "ql", "qc", "qr", "li", "pard", "par", "uc", "u"};
        for (String word : words) {
            fault("{a\\" + word + "000001 b}", BracedPages.RANGE, 2);
            fault("{a\\" + word + "-000001 b}", BracedPages.RANGE, 2);
            fault("{a\\" + word + "99999999999999999999}", BracedPages.RANGE, 2);
        }
        String[] wide = {"b", "i", "ul", "plain", "ql", "qc", "qr", "pard", "par"};
        for (String word : wide) {
            CHECK.same(word, Check.fed("{a\\" + word + "99999 b}").readBraced(), word.equals("par") ? 2 : 1);
            CHECK.same(word, Check.fed("{a\\" + word + "-99999 b}").readBraced(), word.equals("par") ? 2 : 1);
        }
    }

    private static void escapes() {
        page("{\\'41\\'e9\\'ff\\'20\\'7f\\'7b}", "0 0 (0 12 0|A\u00e9\u00ff \u007f{)");
        page("{\\{\\}\\\\\\~}", "0 0 (0 12 0|{}\\\u00a0)");
        page("{\\'41 b}", "0 0 (0 12 0|A b)");
        page("{\\{ b}", "0 0 (0 12 0|{ b)");
        fault("{a\\'1f}", BracedPages.RANGE, 2);
        fault("{a\\'00}", BracedPages.RANGE, 2);
        fault("{a\\'E9}", BracedPages.WORD, 2);
        fault("{a\\'eF}", BracedPages.WORD, 2);
        fault("{a\\'g0}", BracedPages.WORD, 2);
        fault("{a\\'4\n1}", BracedPages.WORD, 2);
    }

    private static void stars() {
        page("{\\*a}", "");
        page("{{\\*\\par a\\1 {b}\\}c\\{}d}", "0 0 (0 12 0|d)");
        page("{{\n\n\\*a}b}", "0 0 (0 12 0|b)");
        page("{{a\\*b}c}", "0 0 (0 12 0|abc)");
        page("{{}\\*b}", "0 0 (0 12 0|b)");
        page("{{ \\*b}}", "0 0 (0 12 0| b)");
        page("{{\\b\\*b}}", "0 0 (1 12 0|b)");
        page("{{\\*\\\\}b}", "0 0 (0 12 0|b)");
        page("{{\\*{{}{{}}}}b}", "0 0 (0 12 0|b)");
        page("{{\\*" + Check.repeated("{", 20) + Check.repeated("}", 20) + "}b}", "0 0 (0 12 0|b)");
        page("{\\b{\\*\\i}b}", "0 0 (1 12 0|b)");
        fault("{\\*", BracedPages.OPEN, 3);
        fault("{\\*\\", BracedPages.OPEN, 4);
        fault("{{\\*\\}", BracedPages.OPEN, 6);
        fault("{{\\*{}", BracedPages.OPEN, 6);
        fault("{\\*a}b", BracedPages.BEHIND, 5);
    }

    private static void leavingOut() {
        page("{\\u233?x}", "0 0 (0 12 0|\u00e9x)");
        page("{\\u233 ?x}", "0 0 (0 12 0|\u00e9x)");
        page("{\\u32\\u255 ab}", "0 0 (0 12 0| ab)");
        page("{\\uc0\\u65 b}", "0 0 (0 12 0|Ab)");
        page("{\\uc2\\u65 bcd}", "0 0 (0 12 0|Ad)");
        page("{\\uc3\\uc\\u65 bcd}", "0 0 (0 12 0|Acd)");
        page("{\\uc9\\u65 123456789d}", "0 0 (0 12 0|Ad)");
        page("{\\uc2\\u65\n\nb\nc\nd}", "0 0 (0 12 0|Ad)");
        page("{\\uc5\\u65\\b \\'41\\*\\~\\{d}", "0 0 (0 12 0|Ad)");
        page("{\\u65\\par b}", "0 0 (0 12 0|Ab)");
        page("{\\u65{b}c}", "0 0 (0 12 0|Abc)");
        page("{\\uc3\\u65 x{b}c}", "0 0 (0 12 0|Abc)");
        page("{{\\u65}bc}", "0 0 (0 12 0|Abc)");
        page("{\\uc2\\u65{\\*x}b}", "0 0 (0 12 0|Ab)");
        page("{\\uc9\\u65\\fs0\\u\\u300\\'00\\uc77\\li10\\cf5\\fs1234567 \\parx}", "0 0 (0 12 0|A)");
        page("{\\u65\\u66 cd}", "0 0 (0 12 0|Acd)");
        page("{\\u65\\uc0 \\u66 cd}", "0 0 (0 12 0|ABd)");
        page("{\\b\\u65?}", "0 0 (1 12 0|A)");
        page("{\\u00065 ?b}", "0 0 (0 12 0|Ab)");
        fault("{\\u65\\1}", BracedPages.WORD, 5);
        fault("{\\u65\\'4x}", BracedPages.WORD, 5);
        fault("{\\u65\\", BracedPages.WORD, 5);
        fault("{\\u}", BracedPages.RANGE, 1);
        fault("{\\u x}", BracedPages.RANGE, 1);
        fault("{\\u-x}", BracedPages.RANGE, 1);
        fault("{\\u31 x}", BracedPages.RANGE, 1);
        fault("{\\u256 x}", BracedPages.RANGE, 1);
        fault("{\\u-65 x}", BracedPages.RANGE, 1);
        // The \\par is left out, so the seventeenth paragraph ends only when all does.
        fault("{" + Check.repeated("\\par", 16) + "\\u65\\par}", BracedPages.LONG, 74);
    }

    private static void tables() {
        page("{{\\colortbl;red;green;blue;cyan;magenta;yellow;white;}"
            + "\\cf0 0\\cf1 1\\cf2 2\\cf3 3\\cf4 4\\cf5 5\\cf6 6\\cf7 7\\cf 0}",
            "0 0 (0 12 0|0) (0 12 1|1) (0 12 2|2) (0 12 3|3) (0 12 4|4) (0 12 5|5) (0 12 6|6) (0 12 7|7) (0 12 0|0)");
        page("{{\\colortbl white;black;;red;red;}\\cf0 a\\cf1 b\\cf2 c\\cf3 d\\cf4 e}", "0 0 (0 12 0|abc) (0 12 1|de)");
        page("{{\\colortbl pink;red;}\\cf1 b}", "0 0 (0 12 1|b)");
        page("{{\n\\colortbl\n;r\ne\nd\n;\n}\\cf1 b}", "0 0 (0 12 1|b)");
        page("{{\\colortbl-1234567 ;red;}\\cf1 b}", "0 0 (0 12 1|b)");
        page("{{\\colortbl;red;}{\\colortbl;blue;}\\cf1 b}", "0 0 (0 12 3|b)");
        page("{{\\colortbl;red;}\\cf1 a{\\colortbl;blue;}b\\cf1 c}", "0 0 (0 12 1|ab) (0 12 3|c)");
        page("{{{\\colortbl;red;}}\\cf1 b}", "0 0 (0 12 1|b)");
        page("{{\\colortbl}\\cf0 b}", "0 0 (0 12 0|b)");
        page("{\\colortbl;red;}", "");
        page("{\\b{\\colortbl;red;}a}", "0 0 (1 12 0|a)");
        page("{a\\colortbl;red;}", "0 0 (0 12 0|a;red;)");
        page("{{\\b\\colortbl x;}}", "0 0 (1 12 0|x;)");
        page("{\\u65{\\colortbl;red;}\\cf1 b}", "0 0 (0 12 0|A) (0 12 1|b)");
        fault("{\\cf1 a}", BracedPages.RANGE, 1);
        fault("{\\cf-1 a}", BracedPages.RANGE, 1);
        page("{\\cf-0 a}", "0 0 (0 12 0|a)");
        fault("{{\\colortbl;red;}\\cf2 a}", BracedPages.RANGE, 17);
        fault("{{\\colortbl;red;}{\\colortbl}\\cf1 a}", BracedPages.RANGE, 28);
        fault("{{\\colortbl;;;;;;;;}\\cf8 a}", BracedPages.RANGE, 20);
        page("{{\\colortbl;;;;;;;;}\\cf7 a}", "0 0 (0 12 0|a)");
    }

    private static void tableFaults() {
        fault("{{\\colortbl;Red;}}", BracedPages.TABLE, 12);
        fault("{{\\colortbl;re d;}}", BracedPages.TABLE, 14);
        fault("{{\\colortbl  ;red;}}", BracedPages.TABLE, 12);
        fault("{{\\colortbl;{};}}", BracedPages.TABLE, 12);
        fault("{{\\colortbl;\\b;}}", BracedPages.TABLE, 12);
        fault("{{\\colortbl;re;}}", BracedPages.TABLE, 14);
        fault("{{\\colortbl;redd;}}", BracedPages.TABLE, 16);
        fault("{{\\colortbl;red}}", BracedPages.TABLE, 15);
        fault("{{\\colortbl red}}", BracedPages.TABLE, 15);
        fault("{{\\colortbl;;;;;;;;;}}", BracedPages.TABLE, 19);
        fault("{{\\colortbl;;;;;;;;red;}}", BracedPages.TABLE, 22);
        fault("{{\\colortbl;red", BracedPages.OPEN, 15);
        fault("{{\\colortbl;red;}", BracedPages.OPEN, 17);
        fault("{{\\colortbl", BracedPages.OPEN, 11);
        fault("{\\colortbl;}a", BracedPages.BEHIND, 12);
    }

    private static void paragraphs() {
        page("{\\par}", "0 0");
        page("{a\\par}", "0 0 (0 12 0|a)");
        page("{\\qc\\li3 a}", "0 0 (0 12 0|a)");
        page("{\\qc a\\par b}", "1 0 (0 12 0|a) / 0 0 (0 12 0|b)");
        page("{{\\b a\\par}b}", "0 0 (1 12 0|a) / 0 0 (0 12 0|b)");
        page("{a{\\qr\\par}b\\par5 c}", "2 0 (0 12 0|a) / 0 0 (0 12 0|b) / 0 0 (0 12 0|c)");
        String fifteen = Check.repeated("\\par", 15);
        CHECK.same("a sixteenth at the end", Check.fed("{" + fifteen + " a}").readBraced(), 16);
        CHECK.same("sixteen", Check.fed("{" + fifteen + "\\par}").readBraced(), 16);
        fault("{" + fifteen + "\\par a}\n", BracedPages.LONG, 69);
        fault("{" + fifteen + "\\par a}", BracedPages.LONG, 68);
        fault("{" + fifteen + "\\par a\\par}", BracedPages.LONG, 67);
        fault("{" + fifteen + "\\par\\par123456}", BracedPages.RANGE, 65);
        fault("{" + fifteen + "\\par a}b", BracedPages.BEHIND, 68);
    }

    private static void faultsChangeNothing() {
        String before = "1 2 (1 20 3|ab) (0 12 0|c)";
        String[] wrong = {"x", "{z\\par", "{z\\par}z", "{z\\par\\1}", "{z\\par\\fs0}", "{z{\\colortbl!}}",
            "{z\\par" + Check.repeated("{", 12), "{" + Check.repeated("z\\par ", 17) + "}"};
        for (String text : wrong) {
            BracedPages pages = new BracedPages();
            pages.begin(1, 2);
            pages.add('a', 1, 20, 3);
            pages.add('b', 1, 20, 3);
            pages.add('c', 0, 12, 0);
            pages.writeTagged();
            String out = Check.out(pages);
            Check.feedAll(pages, text);
            CHECK.same(text + " is a fault", pages.readBraced() < 0 ? 1 : 0, 1);
            CHECK.same(text + " leaves the page", Check.told(pages), before);
            CHECK.same(text + " leaves OUT", Check.out(pages), out);
            CHECK.same(text + ": letters go on", pages.add('d', 1, 12, 0), 3);
        }
        BracedPages pages = Check.fed("{{\\colortbl;red;}\\b\\uc0\\qc x");
        CHECK.same("a fault amid a state", pages.readBraced(), BracedPages.OPEN);
        pages.clear();
        Check.feedAll(pages, "{\\u65 xy\\par}");
        CHECK.same("the next reading", pages.readBraced(), 1);
        CHECK.same("has a state of its own", Check.told(pages), "0 0 (0 12 0|Ay)");
        pages.clear();
        Check.feedAll(pages, "{\\cf1 x}");
        CHECK.same("and a table of its own", pages.readBraced(), BracedPages.RANGE);
        pages.clear();
        Check.feedAll(pages, "{{\\colortbl;blue;re!");
        CHECK.same("a fault amid a table", pages.readBraced(), BracedPages.TABLE);
        pages.clear();
        Check.feedAll(pages, "{a{\\colortbl;red;}\\cf1 b}");
        CHECK.same("the next reading", pages.readBraced(), 1);
        CHECK.same("is in no table", Check.told(pages), "0 0 (0 12 0|a) (0 12 1|b)");
        pages.clear();
        Check.feedAll(pages, "{{\\colortbl;x;}}");
        pages.readBraced();
        pages.clear();
        Check.feedAll(pages, "{{\\colortbl;red;}\\cf1 b}");
        CHECK.same("and amid no name", pages.readBraced(), 1);
        pages.clear();
        Check.feedAll(pages, "{{\\colortbl;re!");
        pages.readBraced();
        pages.clear();
        Check.feedAll(pages, "{{\\colortbl}b}");
        CHECK.same("nor in a table without entries", pages.readBraced(), 1);
    }
}
