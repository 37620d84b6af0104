/** Promises 5 and 7: each sentence on the braced form that names a boundary case, in the document's order. */
public final class BracedBoundsTest {
    private static final Check CHECK = new Check("BracedBoundsTest");
    private static final Form BRACED = new Form(CHECK, BracedPages::readBraced);
    private static final int OPEN = BracedPages.OPEN, BEHIND = BracedPages.BEHIND, WORD = BracedPages.WORD, RANGE = BracedPages.RANGE,
        TABLE = BracedPages.TABLE, DEEP = BracedPages.DEEP, LONG = BracedPages.LONG;
    private static final String SIXTEEN = Check.repeated("\\par", 16), FIFTEEN = Check.repeated("\\par", 15);

    public static void main(String[] arguments) {
        firstState();
        secondReading();
        deepGroups();
        firstGroup();
        notedState();
        notesOfAllGroups();
        smallLetters();
        noWords();
        wordNumbers();
        wrappingNumbers();
        oneBlank();
        styleWords();
        otherLookWords();
        layoutWords();
        skips();
        codes();
        otherWords();
        ranges();
        moreDigits();
        hexadecimalEscapes();
        otherEscapes();
        starsBehindBraces();
        passingOver();
        otherStars();
        letters();
        thingsLeftOut();
        faultsLeftOut();
        endsOfLeavingOut();
        tables();
        entries();
        laterTables();
        otherColortbl();
        tableFaults();
        tooManyEntries();
        tablesCutOff();
        paragraphs();
        lastParagraph();
        tooManyParagraphs();
        openGroups();
        cutOffThings();
        behindAll();
        placesOfFaults();
        pagesThatWereRead();
        CHECK.end();
    }

    private static void page(String text, String due) {
        BRACED.page(text, due);
    }

    /** For texts with one paragraph of plain letters. */
    private static void plain(String text, String letters) {
        BRACED.page(text, "0 0 (0 12 0|" + letters + ")");
    }

    private static void fault(String text, int due, int at) {
        BRACED.fault(text, due, at);
    }

    private static String times(String text, int count) {
        return Check.repeated(text, count);
    }

    private static void firstState() {
        CHECK.sentence("with a STATE (look, alignment, indent, SKIP; at first PLAIN, 0, 0, 1)");
        page("{a\\par}", "0 0 (0 12 0|a)");
        plain("{\\u65 bc}", "Ac");
        CHECK.sentence("and a TABLE of colours (at first entry 0 alone, colour 0)");
        plain("{\\cf0 a}", "a");
        fault("{\\cf1 a}", RANGE, 1);
    }

    private static void secondReading() {
        CHECK.sentence("IN is gone through from the front, with a STATE (look, alignment, indent, SKIP; at first PLAIN, 0, 0, 1)");
        BracedPages pages = Check.fed("{{\\colortbl;red;}\\b\\i\\ul\\fs20\\cf1\\qc\\li3\\uc0 a\\u65{{");
        CHECK.same("a reading that ends amid a state", pages.readBraced(), OPEN);
        pages.clear();
        Check.feedAll(pages, "{a\\u65 bc\\par}");
        CHECK.same("the next one", pages.readBraced(), 1);
        CHECK.same("its page", Check.told(pages), "0 0 (0 12 0|aAc)");
        pages.clear();
        Check.feedAll(pages, "{\\cf1 a}");
        CHECK.same("its table", pages.readBraced(), RANGE);
        pages.clear();
        Check.feedAll(pages, times("{", 12) + times("}", 12));
        CHECK.same("its groups", pages.readBraced(), 0);
        pages.clear();
        Check.feedAll(pages, "{{\\colortbl;blue;re");
        CHECK.same("a reading that ends amid a name", pages.readBraced(), OPEN);
        pages.clear();
        Check.feedAll(pages, "{a{\\colortbl}b{\\colortbl;red;}\\cf1 c}");
        CHECK.same("the next one", pages.readBraced(), 1);
        CHECK.same("its page", Check.told(pages), "0 0 (0 12 0|ab) (0 12 1|c)");
    }

    private static void deepGroups() {
        CHECK.sentence("More than 12 that have not ended: DEEP.");
        plain(times("{", 11) + "a" + times("}", 11), "a");
        plain(times("{", 12) + "a" + times("}", 12), "a");
        fault(times("{", 13) + "a" + times("}", 13), DEEP, 12);
        fault(times("{", 13), DEEP, 12);
        fault(times("{", 12), OPEN, 12);
        fault("{a\n" + times("{", 12) + "a", DEEP, 14);
        plain(times("{", 12) + "}{}{a" + times("}", 12), "a");
        fault(times("{", 12) + "}{}{{", DEEP, 16);
        plain("{" + times("{}", 150) + "a}", "a");
        plain(times("{", 12) + "\\{" + times("}", 12), "{");
        // Behind a star braces are counted only to find the end: they are no groups that could be too many.
        plain(times("{", 12) + "\\*" + times("{", 30) + times("}", 41) + "a}", "a");
    }

    private static void firstGroup() {
        CHECK.sentence("IN must begin with one, and all ends with its end.");
        page("{}", "");
        plain("{{}a}", "a");
        String rest = Check.characters().replace("{", "");
        for (int i = 0; i < rest.length(); i++) {
            fault(rest.charAt(i) + "{a}", OPEN, 0);
        }
        plain("{a}\n", "a");
        fault("{a}}", BEHIND, 3);
    }

    private static void notedState() {
        CHECK.sentence("The group ends: the state is again as it was noted.");
        String[] looks = {"\\b", "\\i", "\\ul", "\\fs5", "\\cf1", "\\b\\i\\ul\\fs1\\cf1"};
        String[] told = {"1 12 0", "2 12 0", "4 12 0", "0 5 0", "0 12 1", "7 1 1"};
        for (int i = 0; i < looks.length; i++) {
            page("{{\\colortbl;red;}a{" + looks[i] + " b}c}", "0 0 (0 12 0|a) (" + told[i] + "|b) (0 12 0|c)");
            page("{{\\colortbl;red;}" + looks[i] + " a{\\plain b}c}", "0 0 (" + told[i] + "|a) (0 12 0|b) (" + told[i] + "|c)");
        }
        page("{{\\qc\\par}\\par{\\qr{\\ql\\par}\\par}\\par}", "1 0 / 0 0 / 0 0 / 2 0 / 0 0");
        page("{{\\li9\\par}\\par\\li3{\\li\\par}\\par}", "0 9 / 0 0 / 0 0 / 0 3");
        page("{\\qr\\li3{\\pard\\par}\\par}", "0 0 / 2 3");
        plain("{{\\uc0}\\u65 bc}", "Ac");
        plain("{\\uc0{\\uc9}\\u65 bc}", "Abc");
    }

    private static void notesOfAllGroups() {
        CHECK.sentence("The group ends: the state is again as it was noted.");
        StringBuilder text = new StringBuilder();
        StringBuilder due = new StringBuilder("0 0");
        for (int size = 1; size <= 12; size++) {
            text.append("{\\fs").append(size + 20).append(" a");
            due.append(" (0 ").append(size + 20).append(" 0|a").append(size == 12 ? "b" : "").append(")");
        }
        for (int size = 11; size >= 1; size--) {
            text.append(size == 11 ? "b}b" : "}b");
            due.append(" (0 ").append(size + 20).append(" 0|b)");
        }
        page(text + "}", due.toString());
    }

    private static void smallLetters() {
        CHECK.sentence("A WORD: a backslash, as many small letters as stand there (one at least)");
        for (char c = 'a'; c <= 'z'; c++) {
            String known = c == 'b' ? "1" : c == 'i' ? "2" : "0";
            if (c == 'u') {
                fault("{\\u}", RANGE, 1);
            } else {
                page("{\\" + c + " x}", "0 0 (" + known + " 12 0|x)");
            }
        }
        page("{\\az\\zaz\\" + times("a", 300) + " x}", "0 0 (0 12 0|x)");
        page("{\\" + times("a", 397) + "}", "");
        fault("{\\" + times("a", 398), OPEN, 400);
        page("{\\bx a}", "0 0 (0 12 0|a)");
        page("{\\para\\bb\\pa\\fsx5 a}", "0 0 (0 12 0|a)");
        page("{\\bX}", "0 0 (1 12 0|X)");
        page("{\\b`}", "0 0 (1 12 0|`)");
    }

    private static void noWords() {
        CHECK.sentence("WORD: what stands behind a backslash is none of the above.");
        String none = Check.characters().replaceAll("[a-z{}\\\\~*']", "");
        CHECK.same("as many are none", none.length(), 96 - 26 - 6);
        for (int i = 0; i < none.length(); i++) {
            fault("{ab\\" + none.charAt(i) + "}", WORD, 3);
            fault("{\\u65\\" + none.charAt(i) + "}", WORD, 5);
        }
    }

    private static void wordNumbers() {
        CHECK.sentence("then perhaps a number (perhaps -, and as many digits as stand there, one at least)");
        page("{\\fs9x}", "0 0 (0 9 0|x)");
        page("{\\fs90x}", "0 0 (0 90 0|x)");
        page("{\\fs/}", "0 0 (0 12 0|/)");
        page("{\\fs:}", "0 0 (0 12 0|:)");
        page("{\\fs-}", "0 0 (0 12 0|-)");
        page("{\\fs- 5}", "0 0 (0 12 0|- 5)");
        page("{\\fs-/5}", "0 0 (0 12 0|-/5)");
        page("{\\fs--5}", "0 0 (0 12 0|--5)");
        page("{\\fs5-}", "0 0 (0 5 0|-)");
        page("{\\fs5-6}", "0 0 (0 5 0|-6)");
        page("{\\fs+5}", "0 0 (0 12 0|+5)");
        page("{\\fs\n5}", "0 0 (0 12 0|5)");
        page("{\\fs1\n5}", "0 0 (0 1 0|5)");
        page("{\\x" + times("9", 300) + "a}", "0 0 (0 12 0|a)");
        page("{\\x" + times("9", 396) + "}", "");
        fault("{a\\b-", OPEN, 5);
        fault("{a\\b-1", OPEN, 6);
    }

    private static void wrappingNumbers() {
        CHECK.sentence("N has more than five digits");
        // As ints or longs these would wrap round to numbers that are right.
        String[] wrapping = {"fs4294967308", "cf4294967296", "li4294967296", "uc4294967297", "u4294967361", "b4294967296",
            "fs18446744073709551628", "u-4294967231", "cf18446744073709551616"};
        for (String word : wrapping) {
            fault("{\\" + word + " a}", RANGE, 1);
        }
    }

    private static void oneBlank() {
        CHECK.sentence("then perhaps one blank");
        page("{\\b a}", "0 0 (1 12 0|a)");
        page("{\\b  a}", "0 0 (1 12 0| a)");
        page("{\\b   }", "0 0 (1 12 0|  )");
        page("{\\b }", "");
        page("{\\b1 a}", "0 0 (1 12 0|a)");
        page("{\\b1a}", "0 0 (1 12 0|a)");
        page("{\\b1  a}", "0 0 (1 12 0| a)");
        page("{\\b- a}", "0 0 (1 12 0|- a)");
        page("{\\b\n a}", "0 0 (1 12 0| a)");
        page("{\\b \n a}", "0 0 (1 12 0| a)");
        plain("{\\'41 \\{ \\~ \\* }", "A { \u00a0  ");
    }

    private static void styleWords() {
        CHECK.sentence("b, i, ul: bold, italic, underlined: not so for N = 0, otherwise so.");
        String[] names = {"b", "i", "ul"};
        for (int i = 0; i < names.length; i++) {
            String so = "0 0 (" + (1 << i) + " 12 0|x)";
            String[] otherwise = {"", "1", "-1", "00001", "9", "99999", "-99999"};
            for (String number : otherwise) {
                page("{\\" + names[i] + number + " x}", so);
            }
            String[] zero = {"0", "-0", "00", "00000", "-00000"};
            for (String number : zero) {
                page("{\\" + names[i] + "\\" + names[i] + number + " x}", "0 0 (0 12 0|x)");
                page("{\\b\\i\\ul\\" + names[i] + number + " x}", "0 0 (" + (7 - (1 << i)) + " 12 0|x)");
            }
        }
    }

    private static void otherLookWords() {
        CHECK.sentence("fs: the size is N, or 12.");
        page("{\\fs1 a\\fs99 b\\fs c\\fs12 d\\fs00009 e}", "0 0 (0 1 0|a) (0 99 0|b) (0 12 0|cd) (0 9 0|e)");
        CHECK.sentence("cf: the colour is that of entry N of the table, or of entry 0.");
        page("{{\\colortbl;red;}\\cf1 a\\cf b\\cf00001 c\\cf0 d}", "0 0 (0 12 1|a) (0 12 0|b) (0 12 1|c) (0 12 0|d)");
        CHECK.sentence("plain: the look is PLAIN.");
        page("{{\\colortbl;red;}\\b\\i\\ul\\fs9\\cf1\\qc\\li2\\uc0 a\\plain b\\u65 c\\par}", "1 2 (7 9 1|a) (0 12 0|bAc)");
        page("{\\b a\\plain0 b\\i\\plain99999 c}", "0 0 (1 12 0|a) (0 12 0|bc)");
        CHECK.sentence("PLAIN is neither bold, italic nor underlined, of size 12 and colour 0.");
        page("{{\\colortbl;red;}\\plain a\\b0\\i0\\ul0\\fs12\\cf0 b\\fs11 c\\fs13 d}", "0 0 (0 12 0|ab) (0 11 0|c) (0 13 0|d)");
    }

    private static void layoutWords() {
        CHECK.sentence("ql, qc, qr: the alignment is 0, 1, 2.");
        page("{\\qr\\par\\qc\\par\\ql\\par\\qc0\\par\\qr0\\par\\ql2\\par}", "2 0 / 1 0 / 0 0 / 1 0 / 2 0 / 0 0");
        CHECK.sentence("li: the indent is N, or 0.");
        page("{\\li9\\par\\li\\par\\li1\\par\\li0\\par\\li00009\\par\\li-0\\par}", "0 9 / 0 0 / 0 1 / 0 0 / 0 9 / 0 0");
        CHECK.sentence("pard: alignment and indent are 0.");
        page("{\\b\\qr\\li9 a\\pard\\par\\qc\\li1\\pard7\\par}", "0 0 (1 12 0|a) / 0 0");
        CHECK.sentence("par: the paragraph ends.");
        page("{\\par}", "0 0");
        page("{\\par0\\par-99999}", "0 0 / 0 0");
        page("{a\\par\\par b\\par}", "0 0 (0 12 0|a) / 0 0 / 0 0 (0 12 0|b)");
    }

    private static void skips() {
        CHECK.sentence("uc: the skip is N, or 1.");
        plain("{\\uc0\\u65 bcd}", "Abcd");
        plain("{\\uc9\\u65 123456789b}", "Ab");
        plain("{\\uc9\\uc\\u65 bcd}", "Acd");
        plain("{\\uc00002\\u65 bcd}", "Ad");
        plain("{\\uc9\\uc-0\\u65 bcd}", "Abcd");
    }

    private static void codes() {
        CHECK.sentence("u: the letter with the code N; behind it as many things as the skip says are LEFT OUT.");
        plain("{\\uc0\\u32\\u126\\u127\\u255\\u00065}", " ~\u007f\u00ffA");
        plain("{\\uc0\\u123\\u125\\u92}", "{}\\");
        page("{\\i\\u65 b}", "0 0 (2 12 0|A)");
    }

    private static void otherWords() {
        CHECK.sentence("All other words (colortbl, too) do nothing, whatever their number.");
        plain("{a\\x\\x0\\x-1\\x99999\\x100000\\x-" + times("9", 50) + " b}", "ab");
        plain("{a\\colortbl\\colortbl0\\colortbl-" + times("9", 50) + " b}", "ab");
        CHECK.sentence("RANGE, for these words alone");
        plain("{a\\f0\\s100\\c99\\l10\\ucx99\\ux1 b}", "ab");
    }

    private static void ranges() {
        CHECK.sentence("N (or a missing one, for u) is not a size, an entry that is there, an indent, 0 .. 9 for the skip, 32 .. 255 for u");
        String[] outside = {"fs0", "fs-0", "fs00000", "fs-1", "fs-12", "fs100", "fs99999", "fs-99999", "cf1", "cf-1", "cf99999", "li-1", "li10",
            "li99999", "uc-1", "uc10", "uc99999", "u", "u-", "u0", "u31", "u-32", "u-65", "u256", "u99999", "u-99999"};
        for (String word : outside) {
            fault("{a\n\\" + word + " b}", RANGE, 3);
            fault("{\\" + word + "}", RANGE, 1);
        }
        String[] within = {"fs1", "fs99", "fs", "fs-", "cf0", "cf-0", "cf", "cf-", "li0", "li9", "li", "li-", "uc0", "uc9", "uc", "uc-",
            "u32", "u255"};
        for (String word : within) {
            CHECK.same(word, Check.fed("{a\\" + word + " b}").readBraced(), 1);
        }
        fault("{\\u", RANGE, 1);
        fault("{{\\colortbl;red;}\\cf2 a}", RANGE, 17);
        page("{{\\colortbl;red;}\\cf1 a}", "0 0 (0 12 1|a)");
        page("{{\\colortbl;;;;;;;white;}\\cf7 a}", "0 0 (0 12 7|a)");
        fault("{{\\colortbl;;;;;;;white;}\\cf8 a}", RANGE, 25);
    }

    private static void moreDigits() {
        CHECK.sentence("of any of them (b, i, ul, plain, ql, qc, qr, pard, par, too), N has more than five digits");
        String[] five = {"b99999", "i99999", "ul99999", "plain99999", "ql99999", "qc99999", "qr99999", "pard99999", "par99999",
            "fs00099", "cf00000", "li00009", "uc00009", "u00255", "b-00000", "par-99999", "cf-00000"};
        for (String word : five) {
            CHECK.same(word, Check.fed("{a\\" + word + " b}").readBraced(), word.startsWith("par") && !word.startsWith("pard") ? 2 : 1);
        }
        String[] words = {"b", "i", "ul", "plain", "ql", "qc", "qr", "pard", "par", "fs", "cf", "li", "uc", "u"};
        String[] six = {"000000", "000001", "000032", "100000", "-000000", "-000001", "-100000", "999999", times("0", 40), times("9", 40)};
        for (String word : words) {
            for (String number : six) {
                fault("{a\\" + word + number + " b}", RANGE, 2);
            }
        }
    }

    private static void hexadecimalEscapes() {
        CHECK.sentence("a backslash, a single quote and two hexadecimal digits (0 .. 9, a .. f): the letter with this code (RANGE below 32)");
        String characters = Check.characters();
        for (int i = 0; i < characters.length(); i++) {
            for (int j = 0; j < characters.length(); j++) {
                hexadecimal(characters.charAt(i), characters.charAt(j));
            }
        }
        fault("{ab\\'1f}", RANGE, 3);
        plain("{ab\\'20}", "ab ");
        plain("{\\'411}", "A1");
    }

    private static void otherEscapes() {
        CHECK.sentence("a backslash and one of { } \\ : that letter; a backslash and ~ : the letter 160");
        plain("{\\{}", "{");
        plain("{\\}}", "}");
        plain("{\\\\}", "\\");
        plain("{\\~}", "\u00a0");
        plain("{\\\\\\\\b}", "\\\\b");
        fault("{\\\\\\}", OPEN, 5);
        fault("{\\\\\\", WORD, 3);
    }

    private static void hexadecimal(char high, char low) {
        String digits = "0123456789abcdef";
        String text = "{\\'" + high + low + "}";
        int code = digits.indexOf(high) * 16 + digits.indexOf(low);
        BracedPages pages = Check.fed(text);
        if (digits.indexOf(high) < 0 || digits.indexOf(low) < 0) {
            CHECK.same(text, pages.readBraced(), WORD);
            CHECK.same(text + " at", pages.at(), 1);
        } else if (code < 32) {
            CHECK.same(text, pages.readBraced(), RANGE);
            CHECK.same(text + " at", pages.at(), 1);
        } else {
            CHECK.same(text, pages.readBraced(), 1);
            CHECK.same(text + " code", pages.letter(0, 0), code);
            CHECK.same(text + " letters", pages.paragraph(0, 3), 1);
        }
    }

    private static void starsBehindBraces() {
        CHECK.sentence("Right behind the { of a group (with characters 10 in between, perhaps) it has all passed over up to the } that ends the group");
        page("{\\*}", "");
        page("{\\*a}", "");
        plain("{{\\*}a}", "a");
        plain("{{\n\\*b}a}", "a");
        plain("{{\n\n\n\\*b\\par\\1\\fs0\\u65}a}", "a");
        plain("{{\\*\\*}a}", "a");
        plain("{\\uc9\\u65{\\*x}a}", "Aa");
        page("{\\b{\\*\\b0}a}", "0 0 (1 12 0|a)");
        fault("{{\\*", OPEN, 4);
        fault("{{\\*a}", OPEN, 6);
        fault("{\\*}a", BEHIND, 4);
    }

    private static void passingOver() {
        CHECK.sentence("of two characters the first of which is a backslash nothing is looked at");
        plain("{{\\*\\}}a}", "a");
        plain("{{\\*\\{}a}", "a");
        plain("{{\\*\\\\}a}", "a");
        plain("{{\\*\\\\\\}}a}", "a");
        plain("{{\\*\\\n}a}", "a");
        fault("{{\\*\\}", OPEN, 6);
        fault("{{\\*\\", OPEN, 5);
        fault("{\\*" + times("a", 396) + "\\", OPEN, 400);
        CHECK.sentence("{ and } are counted, other things are not looked at at all");
        plain("{{\\*{}}a}", "a");
        plain("{{\\*{{}{b}}c}a}", "a");
        plain("{{\\*\\'\\'1\\colortbl!}a}", "a");
        fault("{{\\*{}", OPEN, 6);
        fault("{{\\*{}}", OPEN, 7);
    }

    private static void otherStars() {
        CHECK.sentence("Elsewhere it does nothing.");
        plain("{a\\*b}", "ab");
        plain("{{}\\*b}", "b");
        plain("{{ \\*b}}", " b");
        plain("{{\\x\\*b}}", "b");
        plain("{{\\~\\*b}}", "\u00a0b");
        plain("{{\\*}\\*b}", "b");
        plain("{\\u65\\*bc}", "Abc");
    }

    private static void letters() {
        CHECK.sentence("Any other character but 10 is a LETTER; 10 is passed over.");
        for (char c = 32; c <= 126; c++) {
            if (c != '{' && c != '}' && c != '\\') {
                plain("{" + c + "}", String.valueOf(c));
                plain("{x" + c + "y}", "x" + c + "y");
            }
        }
        page("{\n}", "");
        plain("{\na\n\nb\n}\n", "ab");
        page("{" + times("\n", 398) + "}", "");
        BracedPages pages = Check.fed("{" + times("z", 398) + "}");
        CHECK.same("as many letters as IN may have", pages.readBraced(), 1);
        CHECK.same("how many", pages.paragraph(0, 3), 398);
        CHECK.same("the last", pages.letter(0, 397), 'z');
    }

    private static void thingsLeftOut() {
        String[] things = {"\\b", "\\b ", "\\b-5 ", "\\par", "\\plain", "\\uc0", "\\u66 ", "\\colortbl", "\\x7 ", "\\'42", "\\{", "\\}", "\\\\",
            "\\~", "\\*", "b", "-", ";"};
        CHECK.sentence("words, escapes, stars and letters that are to be left out do nothing, whatever they are");
        for (String thing : things) {
            plain("{\\u65 " + thing + "/c}", "A/c");
        }
        CHECK.sentence("each is one thing");
        for (String thing : things) {
            plain("{\\uc2\\u65 " + thing + thing + "/c}", "A/c");
            plain("{\\uc2\\u65 " + thing + "\n/c}", "Ac");
            plain("{\\uc9\\u65 12345678" + thing + "/c}", "A/c");
        }
        plain("{\\uc9\\u65 12345678}", "A");
        plain("{\\uc9\\u65}", "A");
        plain("{\\u65\n\n\nbc}", "Ac");
    }

    private static void faultsLeftOut() {
        CHECK.sentence("(but WORD faults count, RANGE does not)");
        String[] ranges = {"\\fs0", "\\cf1", "\\li10", "\\uc10", "\\u", "\\u31", "\\b123456", "\\par000000", "\\'00", "\\'1f"};
        for (String range : ranges) {
            plain("{\\u65" + range + "/c}", "A/c");
            fault("{\\u65 b" + range + "/c}", RANGE, 7);
        }
        String[] wrong = {"\\1", "\\A", "\\'4g", "\\'", "\\ ", "\\\n"};
        for (String word : wrong) {
            fault("{\\u65" + word + "/c}", WORD, 5);
        }
        fault("{\\u65\\", WORD, 5);
        fault("{\\u65\\'4", WORD, 5);
    }

    private static void endsOfLeavingOut() {
        CHECK.sentence("A { or } ends the leaving out.");
        plain("{\\uc9\\u65{b}c}", "Abc");
        plain("{\\uc9\\u65 x{b}c}", "Abc");
        plain("{\\uc9{\\u65}bc}", "Abc");
        plain("{\\uc9{\\u65 x}bc}", "Abc");
        plain("{\\uc9\\u65\\{bc}", "A");
        plain("{\\uc9\\u65\\}bc}", "A");
        page("{\\u65{\\colortbl;red;}\\cf1 b}", "0 0 (0 12 0|A) (0 12 1|b)");
        fault("{\\uc9\\u65" + times("{", 12), DEEP, 20);
    }

    private static void tables() {
        CHECK.sentence("The word colortbl, right behind the { of a group (with 10 in between, perhaps)");
        String[] behind = {"{\\colortbl;red;}", "{\n\\colortbl;red;}", "{\n\n\n\\colortbl ;red;}", "{\\colortbl0;red;}", "{\\colortbl-1234567 ;red;}",
            "{{\\colortbl;red;}}"};
        for (String table : behind) {
            page("{" + table + "\\cf1 a}", "0 0 (0 12 1|a)");
        }
        page("{\\colortbl;red;}", "");
        CHECK.sentence("up to } there may be small letters, ; and 10; small letters up to a ; (a 10 among them is passed over) are a name");
        page("{{\\colortbl\n;\nr\n\ne\nd\n;\n}\\cf1 a}", "0 0 (0 12 1|a)");
        page("{{\\colortbl az;}a}", "0 0 (0 12 0|a)");
        CHECK.sentence("has the rest of the group read as a table");
        page("{\\i\\fs7{\\colortbl;red;}a}", "0 0 (2 7 0|a)");
    }

    private static void entries() {
        CHECK.sentence("and make an entry: of colour 0 for the first one, whatever the name");
        String[] first = {"", " red", " pink", " a", " z", " black", " " + times("red", 100)};
        for (String name : first) {
            page("{{\\colortbl" + name + ";blue;}\\cf0 a\\cf1 b}", "0 0 (0 12 0|a) (0 12 3|b)");
        }
        CHECK.sentence("then black or no name at all 0, red 1, green 2, blue 3, cyan 4, magenta 5, yellow 6, white 7");
        String[] names = {"black", "red", "green", "blue", "cyan", "magenta", "yellow", "white"};
        for (int colour = 0; colour < names.length; colour++) {
            page("{{\\colortbl;" + names[colour] + ";}\\cf1 a}", "0 0 (0 12 " + colour + "|a)");
            page("{{\\colortbl;;" + names[colour] + ";}\\cf2 a\\cf1 b}", colour == 0 ? "0 0 (0 12 0|ab)" : "0 0 (0 12 " + colour + "|a) (0 12 0|b)");
        }
    }

    private static void laterTables() {
        CHECK.sentence("With the } the table takes the place of the one before; one without entries has entry 0.");
        page("{{\\colortbl;red;}\\cf1 a{\\colortbl;blue;}b\\cf1 c}", "0 0 (0 12 1|ab) (0 12 3|c)");
        fault("{{\\colortbl;red;blue;}{\\colortbl;red;}\\cf2 a}", RANGE, 38);
        plain("{{\\colortbl}\\cf0 a\\cf b}", "ab");
        plain("{{\\colortbl\n\n}\\cf0 a}", "a");
        fault("{{\\colortbl}\\cf1 a}", RANGE, 12);
        fault("{{\\colortbl;red;}{\\colortbl}\\cf1 a}", RANGE, 28);
        fault("{{\\colortbl;}\\cf1 a}", RANGE, 13);
    }

    private static void otherColortbl() {
        CHECK.sentence("Elsewhere colortbl does nothing.");
        plain("{a{b\\colortbl;x;}}", "ab;x;");
        plain("{{ \\colortbl;x;}}", " ;x;");
        plain("{{\\x\\colortbl;x;}}", ";x;");
        plain("{{}\\colortbl;x;}", ";x;");
        plain("{{\\colortbl}\\colortbl;x;}", ";x;");
        plain("{{\\colortb;x;}{\\colortblx;x;}}", ";x;;x;");
        fault("{a\\colortbl;red;\\cf1 b}", RANGE, 16);
    }

    private static void tableFaults() {
        CHECK.sentence("TABLE: another character");
        String others = Check.characters().replaceAll("[a-z;}\n]", "");
        for (int i = 0; i < others.length(); i++) {
            fault("{{\\colortbl;" + others.charAt(i) + ";}}", TABLE, 12);
            fault("{{\\colortbl;re" + others.charAt(i) + "d;}}", TABLE, 14);
        }
        CHECK.sentence("another name (met at the ;)");
        String[] names = {"a", "r", "re", "redd", "rred", "der", "blac", "blackk", "whitee", "pink", "redred", times("red", 100)};
        for (String name : names) {
            fault("{{\\colortbl;" + name + ";}}", TABLE, 12 + name.length());
            fault("{{\\colortbl;" + name + "\n;}}", TABLE, 13 + name.length());
        }
        CHECK.sentence("or letters behind the last ; (met at the })");
        fault("{{\\colortbl;r}}", TABLE, 13);
        fault("{{\\colortbl;red}}", TABLE, 15);
        fault("{{\\colortbl;red\n}}", TABLE, 16);
        fault("{{\\colortbl red}}", TABLE, 15);
        page("{{\\colortbl;red;\n}}", "");
    }

    private static void tooManyEntries() {
        CHECK.sentence("also a ninth entry (at its ;)");
        plain("{{\\colortbl;;;;;;;;}\\cf7 a}", "a");
        fault("{{\\colortbl;;;;;;;;;}\\cf7 a}", TABLE, 19);
        fault("{{\\colortbl;;;;;;;;red;}\\cf7 a}", TABLE, 22);
        fault("{{\\colortbl;;;;;;;;red}\\cf7 a}", TABLE, 22);
        fault("{{\\colortbl;;;;;;;;\n}", OPEN, 21);
    }

    private static void tablesCutOff() {
        CHECK.sentence("or ends before the first group does (met at its length");
        fault("{{\\colortbl", OPEN, 11);
        fault("{{\\colortbl;", OPEN, 12);
        fault("{{\\colortbl;re", OPEN, 14);
        fault("{{\\colortbl;red;}", OPEN, 17);
        fault("{\\colortbl;}a", BEHIND, 12);
    }

    private static void paragraphs() {
        CHECK.sentence("A letter comes to the paragraph that has not ended, with the look of the state.");
        page("{a\\b b\\par c}", "0 0 (0 12 0|a) (1 12 0|b) / 0 0 (1 12 0|c)");
        page("{a\\b\\b0 b{}c{\\i}d}", "0 0 (0 12 0|abcd)");
        CHECK.sentence("A paragraph that ends has the alignment and indent of the state.");
        page("{\\qc\\li2 a\\qr\\li9\\par\\par}", "2 9 (0 12 0|a) / 2 9");
        page("{a{\\qr\\li3\\par}b\\par}", "2 3 (0 12 0|a) / 0 0 (0 12 0|b)");
    }

    private static void lastParagraph() {
        CHECK.sentence("When all ends, a paragraph that has letters and has not ended ends with 0 and 0.");
        page("{\\qr\\li9 a}", "0 0 (0 12 0|a)");
        page("{\\qr\\li9 a\\par b}", "2 9 (0 12 0|a) / 0 0 (0 12 0|b)");
        page("{\\qr\\li9 a\\par}", "2 9 (0 12 0|a)");
        page("{\\qr\\li9\\par\\b }", "2 9");
        page("{}", "");
    }

    private static void tooManyParagraphs() {
        CHECK.sentence("LONG: a paragraph ends, and 16 have (for the last one, when all ends, met at the length of IN).");
        CHECK.same("fifteen", Check.fed("{" + FIFTEEN + "}").readBraced(), 15);
        CHECK.same("a sixteenth at the end", Check.fed("{" + FIFTEEN + " a}").readBraced(), 16);
        CHECK.same("sixteen", Check.fed("{" + SIXTEEN + "}").readBraced(), 16);
        CHECK.same("sixteen and no letters", Check.fed("{" + SIXTEEN + "\\b\\li9{}\n}\n").readBraced(), 16);
        fault("{" + SIXTEEN + "\\par}", LONG, 65);
        fault("{" + SIXTEEN + "\\par", LONG, 65);
        fault("{" + SIXTEEN + " a\\par}", LONG, 67);
        fault("{" + SIXTEEN + " a}", LONG, 68);
        fault("{" + SIXTEEN + " a}\n\n", LONG, 70);
        fault("{" + SIXTEEN + " a", OPEN, 67);
        fault("{" + SIXTEEN + " a}b", BEHIND, 68);
        fault("{" + SIXTEEN + "\\u65\\par}", LONG, 74);
        fault("{" + SIXTEEN + "\\par000000}", RANGE, 65);
    }

    private static void openGroups() {
        CHECK.sentence("OPEN: IN does not begin with { (met at 0), or ends before the first group does (met at its length");
        fault("", OPEN, 0);
        fault("{", OPEN, 1);
        fault("{{}", OPEN, 3);
        fault("{\n\n", OPEN, 3);
        fault("{" + times("a", 399), OPEN, 400);
        fault("a" + times("{", 20), OPEN, 0);
    }

    private static void cutOffThings() {
        CHECK.sentence("a thing that is cut off by the end of IN is a WORD fault, though");
        String[] cut = {"\\", "\\'", "\\'4", "\\'a"};
        for (String thing : cut) {
            fault("{" + thing, WORD, 1);
            fault("{" + times("a", 399 - thing.length()) + thing, WORD, 400 - thing.length());
        }
        String[] whole = {"\\b", "\\b-", "\\b1", "\\b ", "\\'41", "\\{", "\\}", "\\\\", "\\~", "\\*", "\\u65", "a", "\n", "\\colortbl"};
        for (String thing : whole) {
            fault("{" + thing, OPEN, 1 + thing.length());
            fault("{" + times("a", 399 - thing.length()) + thing, OPEN, 400);
        }
    }

    private static void behindAll() {
        CHECK.sentence("BEHIND: what is not 10 stands behind the last }.");
        String behind = Check.characters().replace("\n", "");
        for (int i = 0; i < behind.length(); i++) {
            fault("{a}" + behind.charAt(i), BEHIND, 3);
            fault("{a}\n\n" + behind.charAt(i) + "\n", BEHIND, 5);
        }
        plain("{a}" + times("\n", 397), "a");
        fault("{a}" + times("\n", 396) + " ", BEHIND, 399);
    }

    private static void placesOfFaults() {
        CHECK.sentence("A fault is MET, if nothing else is said, where its thing begins.");
        String before = "{a\n\\b b";
        fault(before + "\\1", WORD, 7);
        fault(before + "\\'4g", WORD, 7);
        fault(before + "\\fs100 ", RANGE, 7);
        fault(before + "\\'1f", RANGE, 7);
        fault(before + times("{", 12), DEEP, 18);
        fault(before + "}\n\\b", BEHIND, 9);
        fault(before + "\\fs0\\1{{{{{{{{{{{{{", RANGE, 7);
        fault(before + "\\1\\fs0", WORD, 7);
    }

    private static void pagesThatWereRead() {
        CHECK.sentence("(IN stays): the page becomes what was read, and the answer is how many paragraphs it has; or a fault.");
        String full = "{" + times("\\qr\\li9 a\\par", 16) + "}";
        String[] empty = {"{}", "{\\qc\\li3\\b }", "{{}}\n"};
        String[] wrong = {"{" + times("z\\par ", 17) + "}", "{z\\par z\\par", ""};
        for (int i = 0; i < empty.length; i++) {
            BRACED.replacesFull(full, empty[i], wrong[i]);
            BRACED.replacesEmpty(full, empty[i], wrong[i]);
        }
    }
}
