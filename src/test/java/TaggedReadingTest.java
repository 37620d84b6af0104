/** Promises 6 and 7: the tagged form as it is read, with its faults and where they are met. */
public final class TaggedReadingTest {
    private static final Check CHECK = new Check("TaggedReadingTest");
    private static final Form TAGGED = new Form(CHECK, BracedPages::readTagged);

    public static void main(String[] arguments) {
        paragraphs();
        paragraphFaults();
        runs();
        orderFaults();
        ranges();
        letters();
        sames();
        tagFaults();
        tooLong();
        faultsChangeNothing();
        nothingBehindTheEnd();
        CHECK.end();
    }

    /** Just what is written is read: so whatever is read must be written again as it was. */
    private static void page(String text, String due) {
        TAGGED.page(text, due);
        BracedPages pages = Check.fed(text);
        pages.readTagged();
        pages.writeTagged();
        CHECK.same(text + " written", Check.out(pages), text);
    }

    private static void fault(String text, int due, int at) {
        TAGGED.fault(text, due, at);
    }

    private static void paragraphs() {
        page("", "");
        page("<p></p>", "0 0");
        page("<p>a b</p>", "0 0 (0 12 0|a b)");
        page("<p C></p><p R></p><p 1></p><p 9></p><p C1></p><p R9></p>", "1 0 / 2 0 / 0 1 / 0 9 / 1 1 / 2 9");
        page("<p>a</p><p></p><p>b</p>", "0 0 (0 12 0|a) / 0 0 / 0 0 (0 12 0|b)");
    }

    private static void paragraphFaults() {
        String[] wrong = {"<p >", "<p 0>", "<p C0>", "<p 10>", "<p C10>", "<p L>", "<p CR>", "<p 3C>", "<p  C>", "<p C >",
            "<pC>", "<p c>", "<P>", "<p", "<p C", "<p 3", "<p ", "<", "<>", "</>", "<q>", "<pp>", "<p\n>", "< p>", "<p/>"};
        for (String tag : wrong) {
            fault(tag, BracedPages.TAG, 0);
            fault(tag + "a</p>", BracedPages.TAG, 0);
            fault("<p>a</p>" + tag, BracedPages.TAG, 8);
        }
        fault("a", BracedPages.TAG, 0);
        fault("\n", BracedPages.TAG, 0);
        fault("<p>a</p>\n", BracedPages.TAG, 8);
        fault("<p>a</p>b", BracedPages.TAG, 8);
        fault("<p>a</p>&lt;", BracedPages.TAG, 8);
        fault("<p>a</p>&1;", BracedPages.TAG, 8);
        fault("<p>a</p></p>", BracedPages.TAG, 8);
        fault("</p>", BracedPages.TAG, 0);
        fault("</b>", BracedPages.TAG, 0);
        fault("<b>", BracedPages.TAG, 0);
        fault("<s 12>", BracedPages.TAG, 0);
        fault("<c 8>", BracedPages.TAG, 0);
        fault("<p><p></p></p>", BracedPages.TAG, 3);
        fault("<p>a<p>", BracedPages.TAG, 4);
        fault("<p>", BracedPages.TAG, 3);
        fault("<p>abc", BracedPages.TAG, 6);
        fault("<p>a</p", BracedPages.TAG, 4);
        fault("<p>a</p >", BracedPages.TAG, 4);
    }

    private static void runs() {
        page("<p><b>a</b><i>b</i><u>c</u><s 1>d</s><c 7>e</c></p>",
            "0 0 (1 12 0|a) (2 12 0|b) (4 12 0|c) (0 1 0|d) (0 12 7|e)");
        page("<p><b><i><u><s 99><c 1>ab</c></s></u></i></b></p>", "0 0 (7 99 1|ab)");
        page("<p><b><c 2>a</c></b>b<i><s 11>c</s></i></p>", "0 0 (1 12 2|a) (0 12 0|b) (2 11 0|c)");
        page("<p>a<b>b</b>c</p>", "0 0 (0 12 0|a) (1 12 0|b) (0 12 0|c)");
        page("<p><b>a</b><b><i>b</i></b><i>c</i></p>", "0 0 (1 12 0|a) (3 12 0|b) (2 12 0|c)");
        page("<p><s 10>a</s><s 13>b</s></p>", "0 0 (0 10 0|a) (0 13 0|b)");
    }

    private static void orderFaults() {
        fault("<p><i><b>a</b></i></p>", BracedPages.TAG, 6);
        fault("<p><b><b>a</b></b></p>", BracedPages.TAG, 6);
        fault("<p><c 1><s 1>a</s></c></p>", BracedPages.TAG, 8);
        fault("<p><c 1><s 12>a</s></c></p>", BracedPages.TAG, 8);
        fault("<p><s 1><s 12>a</s></c></p>", BracedPages.TAG, 8);
        fault("<p><s 1><u>a</u></s></p>", BracedPages.TAG, 8);
        fault("<p><b>a<i>b</i></b></p>", BracedPages.TAG, 7);
        fault("<p><b>a<c 8>b</c></b></p>", BracedPages.TAG, 7);
        fault("<p><b><i>a</b></i></p>", BracedPages.TAG, 10);
        fault("<p><b><i>a</i>b</b></p>", BracedPages.TAG, 14);
        fault("<p><b><i>a</i>&1;</b></p>", BracedPages.TAG, 14);
        fault("<p><b><i>a</i><i>b</i></b></p>", BracedPages.TAG, 14);
        fault("<p><b><i>a</i><c 1>b</c></b></p>", BracedPages.TAG, 14);
        fault("<p><b><i>a</i></p>", BracedPages.TAG, 14);
        fault("<p><b><i>a</i></i></p>", BracedPages.TAG, 14);
        fault("<p><b>a</p>", BracedPages.TAG, 7);
        fault("<p><b>a", BracedPages.TAG, 7);
        fault("<p><b>", BracedPages.TAG, 6);
        fault("<p><b>a</b>", BracedPages.TAG, 11);
        fault("<p><b>a</b></b>", BracedPages.TAG, 11);
        fault("<p></b></p>", BracedPages.TAG, 3);
        fault("<p>a</b></p>", BracedPages.TAG, 4);
        fault("<p><b>a<p>", BracedPages.TAG, 7);
        fault("<p><b><p>", BracedPages.TAG, 6);
    }

    private static void ranges() {
        String[] wrong = {"<s 0>", "<s 12>", "<s 100>", "<s 012>", "<s 05>", "<s 00>", "<s 99999>", "<s 00001>",
            "<c 0>", "<c 8>", "<c 01>", "<c 10>", "<c 99999>", "<c 00000>",
            "&0;", "&31;", "&60;", "&65;", "&126;", "&256;", "&0127;", "&0200;", "&00200;", "&99999;"};
        for (String part : wrong) {
            fault("<p>" + part + "a</p>", BracedPages.RANGE, 3);
            fault("<p>a" + part, BracedPages.RANGE, 4);
            fault("<p><b>" + part, BracedPages.RANGE, 6);
            fault("<p><b>a</b>" + part, BracedPages.RANGE, 11);
            fault(part, BracedPages.TAG, 0);
        }
        fault("<p><b>a&126;", BracedPages.RANGE, 7);
        String[] malformed = {"<s>", "<s >", "<s5>", "<s  5>", "<s 5 >", "<s 5", "<s 5</s>", "<s -5>", "<s x>", "<s 5x>",
            "<s 123456>", "<s 000001>", "<s ", "<c>", "<c 123456>", "<c 1", "<b 1>", "<b >", "<b", "<bb>",
            "&;", "&", "&lt", "&lt", "&LT;", "&x;", "&quot;", "&-1;", "& 127;", "&127", "&127 ;", "&123456;", "&000200;",
            "&amp", "&am;", "&gt:", "&12x;", "&\n;"};
        for (String part : malformed) {
            fault("<p>" + part, BracedPages.TAG, 3);
            fault("<p>" + part + "\n", BracedPages.TAG, 3);
            fault("<p><b>" + part, BracedPages.TAG, 6);
        }
    }

    private static void letters() {
        page("<p>&lt;&gt;&amp;&127;&160;&255;</p>", "0 0 (0 12 0|<>&\u007f\u00a0\u00ff)");
        page("<p> ;\"'{}\\~/=</p>", "0 0 (0 12 0| ;\"'{}\\~/=)");
        page("<p><b>&lt;</b>&gt;<i>&200;x</i></p>", "0 0 (1 12 0|<) (0 12 0|>) (2 12 0|\u00c8x)");
        fault("<p>a>b</p>", BracedPages.TAG, 4);
        fault("<p>a\nb</p>", BracedPages.TAG, 4);
        fault("<p>a&b</p>", BracedPages.TAG, 4);
        fault("<p>a<b</p>", BracedPages.TAG, 4);
    }

    private static void sames() {
        fault("<p><b>a</b><b>b</b></p>", BracedPages.SAME, 11);
        fault("<p><b><c 3>a</c></b><b><c 3>&lt;", BracedPages.SAME, 20);
        fault("<p>x<b><s 3>a</s></b><b><s 3>b", BracedPages.SAME, 21);
        fault("<p><b>a</b><b>&200;", BracedPages.SAME, 11);
        // The look is not known before the first letter has been read, and what is wrong before that is met first.
        fault("<p><b>a</b><b>&1;", BracedPages.RANGE, 14);
        fault("<p><b>a</b><b>>", BracedPages.TAG, 14);
        fault("<p><b>a</b><b>", BracedPages.TAG, 14);
        fault("<p><b>a</b><b></b>", BracedPages.SAME, 14);
        page("<p><b>a</b><b><i>b</i></b></p>", "0 0 (1 12 0|a) (3 12 0|b)");
        page("<p><b>a</b>x<b>b</b></p>", "0 0 (1 12 0|a) (0 12 0|x) (1 12 0|b)");
        page("<p><b>a</b></p><p><b>b</b></p>", "0 0 (1 12 0|a) / 0 0 (1 12 0|b)");
        page("<p><s 5>a</s><s 6>b</s></p>", "0 0 (0 5 0|a) (0 6 0|b)");
        String[] ends = {"</b>", "</i>", "</u>", "</s>", "</c>", "</p>"};
        for (String end : ends) {
            fault("<p><b>" + end, BracedPages.SAME, 6);
            fault("<p>a<i><s 3>" + end, BracedPages.SAME, 12);
            fault("<p><c 3>" + end, BracedPages.SAME, 8);
        }
        fault("<p><b></q>", BracedPages.TAG, 6);
        fault("<p><b></b", BracedPages.TAG, 6);
        fault("<p><b></>", BracedPages.TAG, 6);
        fault("<p><b></p", BracedPages.TAG, 6);
    }

    private static void tagFaults() {
        fault("<p>a</", BracedPages.TAG, 4);
        fault("<p>a<", BracedPages.TAG, 4);
        fault("<p>a<d>", BracedPages.TAG, 4);
        fault("<p>a</ p>", BracedPages.TAG, 4);
        fault("<p>a<//p>", BracedPages.TAG, 4);
        fault("<p><b>a</b ></p>", BracedPages.TAG, 7);
        fault("<p><s 5>a</s 5></p>", BracedPages.TAG, 9);
    }

    private static void tooLong() {
        String sixteen = Check.repeated("<p></p>", 16);
        CHECK.same("sixteen", Check.fed(sixteen).readTagged(), 16);
        fault(sixteen + "<p>", BracedPages.LONG, 112);
        fault(sixteen + "<p C3>a</p>", BracedPages.LONG, 112);
        fault(sixteen + "<p C0>", BracedPages.TAG, 112);
        fault(sixteen + "<p", BracedPages.TAG, 112);
        fault(sixteen + "a", BracedPages.TAG, 112);
    }

    private static void faultsChangeNothing() {
        String[] wrong = {"x", "<p C>z</p><p>", "<p>z</p><p><s 12>", "<p><b>z</b><b>z", Check.repeated("<p>z</p>", 17)};
        for (String text : wrong) {
            BracedPages pages = Check.fed(text);
            pages.begin(1, 2);
            pages.add('a', 1, 20, 3);
            pages.writeBraced();
            String out = Check.out(pages);
            CHECK.same(text + " is a fault", pages.readTagged() < 0 ? 1 : 0, 1);
            CHECK.same(text + " leaves the page", Check.told(pages), "1 2 (1 20 3|a)");
            CHECK.same(text + " leaves OUT", Check.out(pages), out);
            CHECK.same(text + ": letters go on", pages.add('d', 1, 20, 3), 1);
        }
        BracedPages pages = Check.fed("<p><b><s 5>z");
        CHECK.same("a fault amid a run", pages.readTagged(), BracedPages.TAG);
        pages.clear();
        Check.feedAll(pages, "<p>a</p>");
        CHECK.same("the next reading", pages.readTagged(), 1);
        CHECK.same("begins anew", Check.told(pages), "0 0 (0 12 0|a)");
    }

    /** What stood behind the end of IN in an earlier text, or would stand behind the 400th character, is not read. */
    private static void nothingBehindTheEnd() {
        String[] letters = {"&lt;", "&gt;", "&amp;", "&127;"};
        for (String letter : letters) {
            for (int length = 1; length < letter.length(); length++) {
                String cut = letter.substring(0, length);
                BracedPages pages = Check.fed("<p>" + letter + "</p>");
                pages.readTagged();
                pages.clear();
                Check.feedAll(pages, "<p>" + cut);
                CHECK.same(cut + " behind a longer text", pages.readTagged(), BracedPages.TAG);
                CHECK.same(cut + " behind a longer text: at", pages.at(), 3);
                fault("<p>" + Check.repeated("a", 397 - length) + cut, BracedPages.TAG, 400 - length);
            }
        }
        String[] tags = {"<p>", "</p>", "<b>", "</b>", "<s 20>", "<c 3>"};
        for (String tag : tags) {
            for (int length = 1; length < tag.length(); length++) {
                fault("<p>" + Check.repeated("a", 397 - length) + tag.substring(0, length), BracedPages.TAG, 400 - length);
            }
        }
    }
}
