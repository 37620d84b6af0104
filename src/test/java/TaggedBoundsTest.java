import java.util.HashSet;
import java.util.Set;

/** Promises 6 and 7: each sentence on the tagged form that names a boundary case, in the document's order. */
public final class TaggedBoundsTest {
    private static final Check CHECK = new Check("TaggedBoundsTest");
    private static final Form TAGGED = new Form(CHECK, BracedPages::readTagged);
    private static final int RANGE = BracedPages.RANGE, LONG = BracedPages.LONG, TAG = BracedPages.TAG, SAME = BracedPages.SAME;
    private static final String[] STARTS = {"<b>", "<i>", "<u>", "<s 20>", "<c 3>"};
    private static final String[] ENDS = {"</b>", "</i>", "</u>", "</s>", "</c>"};
    private static final String[] LETTERS = {"x", " ", "&lt;", "&gt;", "&amp;", "&200;"};

    public static void main(String[] arguments) {
        paragraphsBehindOneAnother();
        paragraphTags();
        orderOfTags();
        runsOfAllTags();
        endsOfRuns();
        lettersAsTheyAre();
        namedLetters();
        noZeroInFront();
        justWhatIsWritten();
        rangesOfSizes();
        rangesOfColours();
        rangesOfLetters();
        whereRangeMayStand();
        countsOfDigits();
        sameLooks();
        emptyRuns();
        seventeenth();
        cutOffTags();
        otherTags();
        theEnd();
        firstFault();
        nextReading();
        pagesThatWereRead();
        CHECK.end();
    }

    private static void page(String text, String due) {
        TAGGED.page(text, due);
    }

    private static void fault(String text, int due, int at) {
        TAGGED.fault(text, due, at);
    }

    private static void isRead(String text) {
        BracedPages pages = Check.fed(text);
        CHECK.same(text + " is read", Math.min(pages.readTagged(), 1), 1);
        CHECK.same(text + " at", pages.at(), BracedPages.NONE);
        pages.writeTagged();
        CHECK.same(text + " written again", Check.out(pages), text);
    }

    private static void paragraphsBehindOneAnother() {
        CHECK.sentence("Paragraphs one behind the other.");
        page("", "");
        page("<p></p>", "0 0");
        page("<p>a</p><p></p><p>b</p>", "0 0 (0 12 0|a) / 0 0 / 0 0 (0 12 0|b)");
        String[] between = {"\n", " ", "x", "&lt;", "&200;", "&1;", "<b>", "<s 12>", "</b>", "</p>", "&", "<", ">"};
        for (String part : between) {
            fault(part + "<p></p>", TAG, 0);
            fault("<p></p>" + part + "<p></p>", TAG, 7);
            fault("<p></p>" + part, TAG, 7);
        }
        fault("<p><p></p></p>", TAG, 3);
        fault("<p>a<p>", TAG, 4);
    }

    private static void paragraphTags() {
        CHECK.sentence("A paragraph: <p , then, if its alignment or its indent is not 0, a blank, C or R for alignment 1 or 2, and the indent if it is not 0; >");
        String[] alignments = {"", "C", "R"};
        Set<String> right = new HashSet<>();
        for (int alignment = 0; alignment < 3; alignment++) {
            for (int indent = 0; indent < 10; indent++) {
                String head = alignments[alignment] + (indent == 0 ? "" : String.valueOf(indent));
                String tag = head.isEmpty() ? "<p>" : "<p " + head + ">";
                right.add(tag);
                page(tag + "</p>", alignment + " " + indent);
            }
        }
        String signs = " CRLc0189-p/";
        String[] longer = {""};
        for (int length = 1; length <= 4; length++) {
            longer = withOneMore(longer, signs);
            for (String between : longer) {
                String tag = "<p" + between + ">";
                BracedPages pages = Check.fed(tag + "</p>");
                CHECK.same(tag, pages.readTagged(), right.contains(tag) ? 1 : TAG);
                CHECK.same(tag + " at", pages.at(), right.contains(tag) ? BracedPages.NONE : 0);
            }
        }
    }

    private static String[] withOneMore(String[] texts, String signs) {
        String[] longer = new String[texts.length * signs.length()];
        for (int i = 0; i < longer.length; i++) {
            longer[i] = texts[i / signs.length()] + signs.charAt(i % signs.length());
        }
        return longer;
    }

    /** All rows of one to four tags: the first one that is not behind the one before it is wrong. */
    private static void orderOfTags() {
        CHECK.sentence("A run: of the tags <b> <i> <u> <s N> <c N> , in this order, those that apply");
        for (int row = 0; row < 5 * 5 * 5 * 5; row++) {
            int[] tags = {row / 125, row / 25 % 5, row / 5 % 5, row % 5};
            StringBuilder text = new StringBuilder("<p>");
            int wrongAt = -1;
            int latest = -1;
            for (int tag : tags) {
                wrongAt = wrongAt < 0 && tag <= latest ? text.length() : wrongAt;
                latest = tag;
                text.append(STARTS[tag]);
            }
            text.append("x");
            BracedPages pages = Check.fed(text.toString());
            CHECK.same(text.toString(), pages.readTagged(), TAG);
            CHECK.same(text + " at", pages.at(), wrongAt < 0 ? text.length() : wrongAt);
        }
    }

    private static String starts(int tags) {
        StringBuilder text = new StringBuilder();
        for (int tag = 0; tag < 5; tag++) {
            text.append((tags >> tag & 1) == 1 ? STARTS[tag] : "");
        }
        return text.toString();
    }

    private static String ends(int tags) {
        StringBuilder text = new StringBuilder();
        for (int tag = 4; tag >= 0; tag--) {
            text.append((tags >> tag & 1) == 1 ? ENDS[tag] : "");
        }
        return text.toString();
    }

    private static void runsOfAllTags() {
        CHECK.sentence("its letters; the same tags' ends </b> </i> </u> </s> </c> in the opposite order.");
        for (int tags = 0; tags < 32; tags++) {
            String look = (tags & 7) + ((tags & 8) == 0 ? " 12" : " 20") + ((tags & 16) == 0 ? " 0" : " 3");
            page("<p>" + starts(tags) + "xy" + ends(tags) + "</p>", "0 0 (" + look + "|xy)");
            for (int next = 0; next < 32; next++) {
                if (next != tags) {
                    isRead("<p>" + starts(tags) + "x" + ends(tags) + starts(next) + "y" + ends(next) + "</p>");
                }
            }
        }
    }

    /** Behind the letters of a run its innermost end alone can stand, or more letters; behind one end the next one alone. */
    private static void endsOfRuns() {
        CHECK.sentence("the same tags' ends </b> </i> </u> </s> </c> in the opposite order.");
        String[] parts = {"<b>", "<i>", "<u>", "<s 20>", "<s 12>", "<c 3>", "<c 8>", "</b>", "</i>", "</u>", "</s>", "</c>", "<p>", "</p>",
            "&1;", "\n", ">", "&", "<", ""};
        for (int tags = 1; tags < 32; tags++) {
            String start = "<p>" + starts(tags) + "x";
            for (int left = tags; left != 0; left -= Integer.highestOneBit(left)) {
                String before = start + ends(tags).substring(0, ends(tags).length() - ends(left).length());
                for (String part : parts) {
                    boolean isNext = part.length() == 4 && ends(left).startsWith(part);
                    boolean isLetter = part.equals("&1;") && left == tags;
                    BracedPages pages = Check.fed(before + part);
                    CHECK.same(before + part, pages.readTagged(), isLetter ? RANGE : TAG);
                    CHECK.same(before + part + " at", pages.at(), isNext ? (before + part).length() : before.length());
                }
                for (String letter : LETTERS) {
                    BracedPages pages = Check.fed(before + letter);
                    CHECK.same(before + letter, pages.readTagged(), TAG);
                    CHECK.same(before + letter + " at", pages.at(), left == tags ? (before + letter).length() : before.length());
                }
            }
        }
    }

    private static void lettersAsTheyAre() {
        CHECK.sentence("others as they are");
        String characters = Check.characters();
        for (int i = 0; i < characters.length(); i++) {
            char c = characters.charAt(i);
            if (c == '<' || c == '>' || c == '&' || c == '\n') {
                fault("<p>a" + c + "b</p>", TAG, 4);
                fault("<p><b>" + c + "b</b></p>", TAG, 6);
            } else {
                page("<p>" + c + "</p>", "0 0 (0 12 0|" + c + ")");
                page("<p><b>" + c + "</b></p>", "0 0 (1 12 0|" + c + ")");
            }
        }
        BracedPages pages = Check.fed("<p>" + Check.repeated("z", 393) + "</p>");
        CHECK.same("as many letters as IN may have", pages.readTagged(), 1);
        CHECK.same("how many", pages.paragraph(0, 3), 393);
        CHECK.same("the last", pages.letter(0, 392), 'z');
    }

    private static void namedLetters() {
        CHECK.sentence("Letters < > & are written &lt; &gt; &amp; , codes N from 127 on &N;");
        page("<p>&lt;&gt;&amp;</p>", "0 0 (0 12 0|<>&)");
        page("<p>&amp;lt;&lt;&amp;</p>", "0 0 (0 12 0|&lt;<&)");
        for (int code = 127; code <= 255; code++) {
            page("<p>&" + code + ";</p>", "0 0 (0 12 0|" + (char) code + ")");
        }
        String[] wrong = {"&", "&;", "&l", "&lt", "&lt ;", "&LT;", "&Lt;", "&ltt;", "&g;", "&gt", "&gt:", "&amp", "&am;", "&ampp;", "&quot;",
            "&x;", "&127", "&127 ;", "& 127;", "&-127;", "&+127;", "&12x;", "&x127;", "&&lt;", "&\n;", "&127\n;"};
        for (String letter : wrong) {
            fault("<p>a" + letter, TAG, 4);
            fault("<p>a" + letter + "</p>", TAG, 4);
            fault("<p><i>" + letter + "</i></p>", TAG, 6);
        }
    }

    private static void noZeroInFront() {
        CHECK.sentence("Numbers have no 0 in front.");
        String[] numbers = {"<s 01>", "<s 011>", "<s 00013>", "<s 099>", "<c 01>", "<c 00007>", "&0127;", "&00255;"};
        for (String part : numbers) {
            fault("<p>a" + part + "b", RANGE, 4);
        }
        fault("<p 01></p>", TAG, 0);
        fault("<p C09></p>", TAG, 0);
    }

    private static void justWhatIsWritten() {
        CHECK.sentence("Just what is so written is read");
        String[] right = {"<p>a</p>", "<p C9><b><i><u><s 1><c 7>&lt;b</c></s></u></i></b>&255; <s 99>~</s></p><p 1></p>"};
        String characters = Check.characters();
        for (String text : right) {
            isRead(text);
            for (int at = 0; at < text.length(); at++) {
                isReadAsWritten(text.substring(0, at) + text.substring(at + 1));
                for (int i = 0; i < characters.length(); i++) {
                    isReadAsWritten(text.substring(0, at) + characters.charAt(i) + text.substring(at + 1));
                }
            }
        }
    }

    /** A text that is read is the one that its page is written as. */
    private static void isReadAsWritten(String text) {
        BracedPages pages = Check.fed(text);
        if (pages.readTagged() >= 0) {
            pages.writeTagged();
            CHECK.same(text + " written again", Check.out(pages), text);
        } else {
            CHECK.same(text + " leaves the page", pages.paragraphs(), 0);
        }
    }

    private static void rangesOfSizes() {
        CHECK.sentence("(size N not 12, colour N not 0)");
        for (int size = 0; size <= 130; size++) {
            if (size >= 1 && size <= 99 && size != 12) {
                page("<p><s " + size + ">x</s></p>", "0 0 (0 " + size + " 0|x)");
            } else {
                fault("<p><s " + size + ">x</s></p>", RANGE, 3);
            }
        }
        fault("<p><s 256>x", RANGE, 3);
        fault("<p><s 65537>x", RANGE, 3);
        fault("<p><s 99999>x", RANGE, 3);
    }

    private static void rangesOfColours() {
        CHECK.sentence("(size N not 12, colour N not 0)");
        for (int colour = 0; colour <= 20; colour++) {
            if (colour >= 1 && colour <= 7) {
                page("<p><c " + colour + ">x</c></p>", "0 0 (0 12 " + colour + "|x)");
            } else {
                fault("<p><c " + colour + ">x</c></p>", RANGE, 3);
            }
        }
        fault("<p><c 257>x", RANGE, 3);
        fault("<p><c 99999>x", RANGE, 3);
    }

    private static void rangesOfLetters() {
        CHECK.sentence("or a letter &N; , stands where it may, well formed, with one to five digits, but N is not one that is written so (also with a 0 in front)");
        for (int code = 0; code <= 126; code++) {
            fault("<p>a&" + code + ";", RANGE, 4);
        }
        int[] above = {256, 257, 383, 999, 1000, 9999, 10000, 65663, 99999};
        for (int code : above) {
            fault("<p>a&" + code + ";", RANGE, 4);
        }
        String[] zeros = {"&0;", "&00;", "&00000;", "&0127;", "&00127;", "&00200;"};
        for (String letter : zeros) {
            fault("<p>a" + letter, RANGE, 4);
        }
    }

    private static void whereRangeMayStand() {
        CHECK.sentence("RANGE: a tag <s N> or <c N>, or a letter &N; , stands where it may");
        String[] wrong = {"<s 12>", "<c 8>", "&126;"};
        for (String part : wrong) {
            String[] before = {"<p>", "<p>a", "<p><b>", "<p><b><i><u>", "<p><b>a</b>", "<p></p><p C3>"};
            for (String place : before) {
                fault(place + part, RANGE, place.length());
                fault(place + part + "<<<", RANGE, place.length());
            }
            String[] elsewhere = {"", "<p></p>", "<p><b><i>a</i>"};
            for (String place : elsewhere) {
                fault(place + part, TAG, place.length());
            }
        }
        fault("<p><s 5><c 8>", RANGE, 8);
        fault("<p><s 5>&1;", RANGE, 8);
        fault("<p><b>a&1;", RANGE, 7);
        String[] afterC = {"<p><c 1><s 12>", "<p><c 1><c 8>", "<p><c 1><c 0>"};
        for (String text : afterC) {
            fault(text, TAG, 8);
        }
        fault("<p><s 5><s 12>", TAG, 8);
        fault("<p><b>a<s 12>", TAG, 7);
        fault("<p><b>a<c 8>", TAG, 7);
    }

    private static void countsOfDigits() {
        CHECK.sentence("well formed, with one to five digits");
        String[] starts = {"<s ", "<c ", "&"};
        String[] ends = {">", ">", ";"};
        for (int i = 0; i < starts.length; i++) {
            for (int digits = 0; digits <= 40; digits++) {
                int due = digits >= 1 && digits <= 5 ? RANGE : TAG;
                fault("<p>a" + starts[i] + Check.repeated("0", digits) + ends[i], due, 4);
            }
            fault("<p>a" + starts[i] + "99999" + ends[i], RANGE, 4);
            fault("<p>a" + starts[i] + "100000" + ends[i], TAG, 4);
            fault("<p>a" + starts[i] + "000001" + ends[i], TAG, 4);
            fault("<p>a" + starts[i] + Check.repeated("9", 300), TAG, 4);
        }
        // As ints or longs these would wrap round to numbers that are written so.
        fault("<p>a<s 4294967297>", TAG, 4);
        fault("<p>a<c 18446744073709551617>", TAG, 4);
        fault("<p>a&4294967496;", TAG, 4);
        String[] malformed = {"<s>", "<s >", "<s1>", "<s  1>", "<s 1 >", "<s -1>", "<s 1x>", "<s x>", "<s\n1>", "<S 1>", "<c>", "<c1>", "<c 1\n>"};
        for (String tag : malformed) {
            fault("<p>a" + tag, TAG, 4);
        }
    }

    private static void sameLooks() {
        CHECK.sentence("SAME: a run's look is that of the run before (met at the run's first part, when its first letter has been read)");
        for (int tags = 1; tags < 32; tags++) {
            String run = "<p>" + starts(tags) + "x" + ends(tags);
            for (String letter : LETTERS) {
                fault(run + starts(tags) + letter, SAME, run.length());
            }
            String[] notYet = {"", "\n", ">", "&", "<", "<q>", "<p>"};
            for (String part : notYet) {
                fault(run + starts(tags) + part, TAG, run.length() + starts(tags).length());
            }
            fault(run + starts(tags) + "&1;", RANGE, run.length() + starts(tags).length());
            isRead(run + "y" + starts(tags) + "x" + ends(tags) + "</p>");
            isRead(run + "</p>" + run + "</p>");
        }
        page("<p><s 5>a</s><s 6>b</s><c 5>a</c><c 6>b</c></p>", "0 0 (0 5 0|a) (0 6 0|b) (0 12 5|a) (0 12 6|b)");
        fault("<p>a<b>a</b>a<i>a</i><i>a", SAME, 21);
    }

    private static void emptyRuns() {
        CHECK.sentence("or where its first letter should be, behind one tag at least, stands an end tag, one of the five or </p> (met there)");
        for (int tags = 1; tags < 32; tags++) {
            String before = "<p>a" + starts(tags);
            for (String end : ENDS) {
                fault(before + end, SAME, before.length());
            }
            fault(before + "</p>", SAME, before.length());
            String[] others = {"</q>", "</>", "</b", "</p", "</", "<p>", "\n", ""};
            for (String part : others) {
                fault(before + part, TAG, before.length());
            }
        }
        page("<p></p>", "0 0");
        for (String end : ENDS) {
            fault("<p>" + end, TAG, 3);
            fault("<p>a" + end, TAG, 4);
        }
    }

    private static void seventeenth() {
        CHECK.sentence("LONG: a seventeenth paragraph begins (when its tag has been read).");
        String fifteen = Check.repeated("<p></p>", 15);
        String sixteen = fifteen + "<p 9>a</p>";
        CHECK.same("fifteen", Check.fed(fifteen).readTagged(), 15);
        CHECK.same("sixteen", Check.fed(sixteen).readTagged(), 16);
        String[] tags = {"<p>", "<p C>", "<p R9>", "<p></p>", "<p>\n", "<p 1><b>"};
        for (String tag : tags) {
            fault(sixteen + tag, LONG, 115);
        }
        String[] unread = {"<p", "<p ", "<p C", "<p C0>", "<p 0>", "<", "<q>", "</p>", "a", "\n", "<b>"};
        for (String part : unread) {
            fault(sixteen + part, TAG, 115);
        }
        fault(fifteen + "<p><p>", TAG, 108);
    }

    /** All beginnings of a right text: one that ends amid a part is met where that part begins, any other at its end. */
    private static void cutOffTags() {
        CHECK.sentence("a tag that is cut off, or not one of those, is met at its < .");
        String[] parts = {"<p C3>", "a", "<b>", "<i>", "<u>", "<s 20>", "<c 3>", "&lt;", "x", "&200;", "</c>", "</s>", "</u>", "</i>", "</b>",
            "&amp;", "</p>"};
        StringBuilder before = new StringBuilder();
        for (String part : parts) {
            for (int length = 1; length < part.length(); length++) {
                fault(before + part.substring(0, length), TAG, before.length());
                String full = "<p>" + Check.repeated("a", 397 - length) + part.substring(0, length);
                fault(full, TAG, 400 - length);
            }
            before.append(part);
            if (!part.equals("</p>")) {
                fault(before.toString(), TAG, before.length());
            }
        }
        isRead(before.toString());
    }

    private static void otherTags() {
        CHECK.sentence("TAG: anything else that can't stand where it stands");
        String characters = Check.characters();
        for (int i = 0; i < characters.length(); i++) {
            char c = characters.charAt(i);
            boolean isTag = "biu".indexOf(c) >= 0;
            fault("<p>a<" + c + ">", TAG, isTag ? 7 : 4);
            fault("<p>a<" + c, TAG, 4);
            if (c != 'p') {
                fault("<p>a</" + c + ">", TAG, 4);
            }
        }
    }

    private static void theEnd() {
        CHECK.sentence("a part is one of these tags, a letter (with all from & to ;), or the end.");
        page("<p></p>", "0 0");
        String[] unfinished = {"<p>", "<p>a", "<p>&lt;", "<p><b>", "<p><b>a", "<p><b><i>a</i>", "<p><b>a</b>", "<p></p><p 3>"};
        for (String text : unfinished) {
            fault(text, TAG, text.length());
        }
        fault("<p>" + Check.repeated("a", 397), TAG, 400);
    }

    private static void firstFault() {
        CHECK.sentence("READING goes through IN from the front, and a FAULT is met where the part begins that is wrong");
        fault("<p><s 12><q>", RANGE, 3);
        fault("<p><q><s 12>", TAG, 3);
        fault("<p><b></b><s 12>", SAME, 6);
        fault("<p><b>x</b><b>y<s 12>", SAME, 11);
        fault("<p><b>x</b><b><c 8>y", RANGE, 14);
        fault("<p>a\n&1;", TAG, 4);
        fault("<p>a&1;\n", RANGE, 4);
        fault(Check.repeated("<p></p>", 16) + "<p><q>", LONG, 112);
        fault(Check.repeated("<p></p>", 15) + "<p><q></p><p>", TAG, 108);
    }

    private static void nextReading() {
        CHECK.sentence("A reading that answers a fault changes nothing but AT.");
        String[] wrong = {"<p C3>", "<p>a<b><i><s 5><c 3>", "<p><b><c 3>a", "<p><b><i>a</i>", "<p><s 12>", "<p><b>x</b><b>x", "<p><b></b>",
            Check.repeated("<p></p>", 16) + "<p>"};
        for (String text : wrong) {
            BracedPages pages = Check.fed(text);
            CHECK.same(text + " is a fault", pages.readTagged() < 0 ? 1 : 0, 1);
            pages.clear();
            Check.feedAll(pages, "<p>a<i>b</i></p>");
            CHECK.same("the next reading", pages.readTagged(), 1);
            CHECK.same("its page", Check.told(pages), "0 0 (0 12 0|a) (2 12 0|b)");
        }
    }

    private static void pagesThatWereRead() {
        CHECK.sentence("Reads IN as TAGGED, likewise.");
        String full = Check.repeated("<p R9><b>a</b></p>", 16);
        String[] wrong = {Check.repeated("<p>z</p>", 17), "<p>z</p><p>z"};
        for (String text : wrong) {
            TAGGED.replacesFull(full, "", text);
            TAGGED.replacesEmpty(full, "", text);
        }
    }
}
